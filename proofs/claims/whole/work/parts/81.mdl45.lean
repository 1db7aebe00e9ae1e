theorem dg_sub {c : Int32} (h3 : 48 ≤ c.toInt) (h4 : c.toInt ≤ 57) : (c - 48).toInt = c.toInt - 48 := by
  rw [Int32.toInt_sub]
  show (c.toInt - 48).bmod (2 ^ 32) = _
  exact Int.bmod_eq_of_le_mul_two (by omega) (by omega)
/-- the first digit in the class's parser -/
theorem dF {t : Nat → Int32} {n p : Nat} {a : gST} {x : Int32} (hp : p ≤ n) (h3 : ¬ a.1 356 3 = 5) (hacc : gAcc a (t p) = (x, (gAf a (t p)).2)) (hx : x = 0 ↔ ¬ (48 ≤ (t p).toInt ∧ (t p).toInt ≤ 57)) :
    (¬ (48 ≤ (hr t n p).toInt ∧ (hr t n p).toInt ≤ 57) → (pF t n p a).1 = nI p) ∧
    ((48 ≤ (hr t n p).toInt ∧ (hr t n p).toInt ≤ 57) → ∃ a', pF t n p a = pF t n (dNum t n 3 (p + 1) (hr t n p - 48)).1 a' ∧ a'.1 356 3 = 4 ∧ a'.1 356 11 = (dNum t n 3 (p + 1) (hr t n p - 48)).2 ∧ a'.1 356 9 = a.1 356 9 ∧ cSm a a' ∧
      ((dNum t n 3 (p + 1) (hr t n p - 48)).1 < n → (gAn a' (t (dNum t n 3 (p + 1) (hr t n p - 48)).1)).1 = 0)) := by
  constructor
  · intro h
    by_cases hpn : p < n
    · rw [hr_i hpn] at h
      rw [pF_s hpn, hacc, if_pos (hx.mpr h)]
    · rw [pF_e (by omega), if_neg h3]
  · intro h
    have hpn := dg_lt h
    rw [hr_i hpn] at h ⊢
    have hx0 : ¬ x = 0 := fun h9 => hx.mp h9 h
    have hs := dg_sub h.1 h.2
    have ew : (gAf a (t p)).2 = gPut (gPut (gPut a 356 10 1) 356 11 (t p - 48)) 356 3 4 := rfl
    obtain ⟨a', e1, e2, e3, e4, e5, e6⟩ := dL (t := t) (n := n) 3 1 (p + 1) (t p - 48) (gPut (gPut (gPut a 356 10 1) 356 11 (t p - 48)) 356 3 4) rfl (by omega) (by rw [gPut_at, if_pos ⟨rfl, rfl⟩])
      (by rw [gPut_at, if_neg (by decide), gPut_at, if_neg (by decide), gPut_at, if_pos ⟨rfl, rfl⟩]; rfl) (by rw [gPut_at, if_neg (by decide), gPut_at, if_pos ⟨rfl, rfl⟩]) (by omega) (by rw [hs]; show _ < (10 : Int); omega)
    refine ⟨a', ?_, e2, e3, e4.trans (by rw [gPut_at, if_neg (by decide), gPut_at, if_neg (by decide), gPut_at, if_neg (by decide)]), ((((cSm.rf a).put (by decide) _).put (by decide) _).put (by decide) _).tr e5, e6⟩
    rw [pF_s hpn, hacc, ew]
    exact (if_neg hx0).trans e1
/-- a coordinate in the class's parser -/
theorem cL {t : Nat → Int32} {n p : Nat} {a : gST} (hp : p ≤ n) (h3 : a.1 356 3 = 2) (h9 : a.1 356 9 = 0) :
    (cW1 t n p false = true → (pF t n p a).1 = nI (cP1 t n p false)) ∧
    (cW1 t n p false = false → ∃ a', pF t n p a = pF t n (cP t n p false) a' ∧ a'.1 356 3 = 4 ∧ gSv a' = cV t n p false ∧ cSm a a' ∧ (cP t n p false < n → (gAn a' (t (cP t n p false))).1 = 0)) := by
  have hs2 : nA (a.1 356 3) = 2 := by rw [h3]; decide
  by_cases h1 : hr t n p = 45
  · have hpn : p < n := hr_lt h1 (by decide)
    have h1t : t p = 45 := (hr_i hpn).symm.trans h1
    have e1 : cP1 t n p false = p + 1 := if_pos ⟨h1, rfl⟩
    have em : gAm a (t p) = (1, gPut (gPut a 356 9 1) 356 3 3) := if_pos h1t
    have ea : gAcc a (t p) = (1, gPut (gPut a 356 9 1) 356 3 3) := by
      rw [gAcc_2 hs2, em]
      exact if_neg (show ¬ (1 : Int32) = 0 by decide)
    have ep : pF t n p a = pF t n (p + 1) (gPut (gPut a 356 9 1) 356 3 3) := by
      rw [pF_s hpn, ea]
      exact if_neg (show ¬ (1 : Int32) = 0 by decide)
    have w3 : (gPut (gPut a 356 9 1) 356 3 3).1 356 3 = 3 := by rw [gPut_at, if_pos ⟨rfl, rfl⟩]
    have w9 : (gPut (gPut a 356 9 1) 356 3 3).1 356 9 = 1 := by rw [gPut_at, if_neg (by decide), gPut_at, if_pos ⟨rfl, rfl⟩]
    have hd := dF (t := t) (n := n) (p := p + 1) (a := gPut (gPut a 356 9 1) 356 3 3) (x := gWi (t (p + 1)).toInt 48 57) (by omega) (by rw [w3]; decide) ((gAcc_3 (by rw [w3]; decide)).trans rfl) ⟨gWi_0, gWi_f⟩
    rw [ep]
    by_cases h2 : 48 ≤ (hr t n (p + 1)).toInt ∧ (hr t n (p + 1)).toInt ≤ 57
    · have e2 : cW1 t n p false = false := if_neg (fun h9 => h9.elim (fun h8 => by cases h8) (fun h8 => h8 (by rw [e1]; exact h2)))
      have e4 : cNu t n p false = dNum t n 3 (p + 1 + 1) (hr t n (p + 1) - 48) := by unfold cNu; rw [e1]
      have e3 : ¬ cW1 t n p false = true := fun h9 => by rw [e2] at h9; cases h9
      have ecp : cP t n p false = (dNum t n 3 (p + 1 + 1) (hr t n (p + 1) - 48)).1 := (if_neg e3).trans (congrArg Prod.fst e4)
      have ecv : cV t n p false = -(dNum t n 3 (p + 1 + 1) (hr t n (p + 1) - 48)).2 := (if_neg e3).trans (by unfold cVs; rw [if_pos h1, e4])
      refine ⟨fun h => absurd h e3, fun _ => ?_⟩
      obtain ⟨a', g1, g2, g3, g4, g5, g6⟩ := hd.2 h2
      rw [ecp, ecv]
      refine ⟨a', g1, g2, ?_, (((cSm.rf a).put (by decide) _).put (by decide) _).tr g5, g6⟩
      unfold gSv
      rw [g4, w9, g3]
      exact if_neg (by decide)
    · have e2 : cW1 t n p false = true := if_pos (Or.inr (by rw [e1]; exact h2))
      exact ⟨fun _ => by rw [e1]; exact hd.1 h2, fun h => by rw [e2] at h; cases h⟩
  · have e1 : cP1 t n p false = p := if_neg (fun h9 => h1 h9.1)
    by_cases hpn : p < n
    · have h1t : ¬ t p = 45 := fun h8 => h1 ((hr_i hpn).trans h8)
      have em : gAm a (t p) = (0, a) := if_neg h1t
      have hd := dF (t := t) (n := n) (p := p) (a := a) (x := if gWi (t p).toInt 48 57 = 0 then 0 else 1) hp (by rw [h3]; decide) (by rw [gAcc_2 hs2, em]; exact if_pos rfl) (by
        by_cases c1 : 48 ≤ (t p).toInt ∧ (t p).toInt ≤ 57
        · rw [gWi_t c1, if_neg (by decide)]; exact ⟨fun h8 => absurd h8 (by decide), fun h8 => absurd c1 h8⟩
        · rw [gWi_f c1, if_pos rfl]; exact ⟨fun _ => c1, fun _ => rfl⟩)
      by_cases h2 : 48 ≤ (hr t n p).toInt ∧ (hr t n p).toInt ≤ 57
      · have e2 : cW1 t n p false = false := if_neg (fun h9 => h9.elim (fun h8 => by cases h8) (fun h8 => h8 (by rw [e1]; exact h2)))
        have e4 : cNu t n p false = dNum t n 3 (p + 1) (hr t n p - 48) := by unfold cNu; rw [e1]
        have e3 : ¬ cW1 t n p false = true := fun h9 => by rw [e2] at h9; cases h9
        have ecp : cP t n p false = (dNum t n 3 (p + 1) (hr t n p - 48)).1 := (if_neg e3).trans (congrArg Prod.fst e4)
        have ecv : cV t n p false = (dNum t n 3 (p + 1) (hr t n p - 48)).2 := (if_neg e3).trans (by unfold cVs; rw [if_neg h1, e4])
        refine ⟨fun h => absurd h e3, fun _ => ?_⟩
        obtain ⟨a', g1, g2, g3, g4, g5, g6⟩ := hd.2 h2
        rw [ecp, ecv]
        refine ⟨a', g1, g2, ?_, g5, g6⟩
        unfold gSv
        rw [g4, h9, g3]
        exact if_pos rfl
      · have e2 : cW1 t n p false = true := if_pos (Or.inr (by rw [e1]; exact h2))
        exact ⟨fun _ => by rw [e1]; exact hd.1 h2, fun h => by rw [e2] at h; cases h⟩
    · have h2 : ¬ (48 ≤ (hr t n p).toInt ∧ (hr t n p).toInt ≤ 57) := fun h8 => hpn (dg_lt h8)
      have e2 : cW1 t n p false = true := if_pos (Or.inr (by rw [e1]; exact h2))
      refine ⟨fun _ => ?_, fun h => by rw [e2] at h; cases h⟩
      rw [e1, pF_e (by omega), h3]
      show (if (2 : Int32) = 5 then (-1 : Int32) else nI p) = nI p
      exact if_neg (by decide)
