/-- the class's world after a contour is closed, and after a point when another follows -/
def cCl (a : gST) (K q : Nat) : gST := gPut (gPut (gPut (gApW a) 362 K (nI (q + 1))) 356 5 (nI (K + 1))) 356 3 5
def cNx (a : gST) : gST := gBc (gApW a) 0
/-- the sign after a point in the class's parser -/
theorem cZ {t : Nat → Int32} {n p q K : Nat} {a : gST} (hp : p ≤ n) (h3 : a.1 356 3 = 4) (h8 : a.1 356 8 = 1) (hr0 : p < n → (gAn a (t p)).1 = 0) (h7 : a.1 356 7 = nI q) (h5 : a.1 356 5 = nI K) (hq : q < 1000) (hK : K < 1000) :
    (mF t n q p = false → p + 1 ≤ n ∧ pF t n p a = pF t n (p + 1) (cCl a K q)) ∧
    (mF t n q p = true → hr t n p = 32 → p + 1 ≤ n ∧ pF t n p a = pF t n (p + 1) (cNx a)) ∧
    (mF t n q p = true → ¬ hr t n p = 32 → (pF t n p a).1 = nI p) := by
  have hKn : nA (a.1 356 5) = K := by rw [h5]; exact nA_nI (by omega)
  have h83 : ¬ a.1 356 8 = 0 := by rw [h8]; decide
  by_cases hpn : p < n
  · have hn := hr0 hpn
    have ea : gAcc a (t p) = (if (gAp a (t p)).1 = 0 then 0 else 1, (gAp a (t p)).2) := by
      rw [gAcc_4 (by rw [h3]; decide), if_pos hn, gAn_0 hn]
      unfold gAe
      rw [if_neg h83]
    have hlt : (a.1 356 7 + 1 < 3) ↔ q + 1 < 3 := by
      rw [h7, nI_1]
      exact ⟨fun h => Nat.not_le.mp (fun h9 => nI_nlt3 (a := q + 1) (b := 3) h9 (by omega) h), fun h => nI_lt (a := q + 1) (b := 3) h (by omega)⟩
    rw [pF_s hpn, ea, hr_i hpn]
    by_cases hc : t p = 41 ∧ ¬ q + 1 < 3
    · have hm : mF t n q p = false := if_neg (fun h9 => h9.elim hc.2 (fun h8 => h8 ((hr_i hpn).trans hc.1)))
      have eg : gAp a (t p) = (1, cCl a K q) := by
        unfold gAp cCl
        rw [if_pos ⟨hc.1, fun h9 => hc.2 (hlt.mp h9)⟩, hKn, h7, h5, nI_1, nI_1]
      refine ⟨fun _ => ⟨hpn, ?_⟩, fun h => absurd h (by rw [hm]; decide), fun h => absurd h (by rw [hm]; decide)⟩
      rw [eg]
      rfl
    · have hm : mF t n q p = true := if_pos (by
        rw [hr_i hpn]
        by_cases h1 : q + 1 < 3
        · exact Or.inl h1
        · exact Or.inr (fun h9 => hc ⟨h9, h1⟩))
      have eg : gAp a (t p) = (if t p = 32 then 1 else 0, cNx a) := by
        unfold gAp cNx
        rw [if_neg (fun h9 => hc ⟨h9.1, fun h10 => h9.2 (hlt.mpr h10)⟩)]
      refine ⟨fun h => absurd h (by rw [hm]; decide), fun _ h2 => ⟨hpn, ?_⟩, fun _ h2 => ?_⟩
      · rw [eg, if_pos h2]
        rfl
      · rw [eg, if_neg h2]
        rfl
  · have hh : hr t n p = -1 := if_neg hpn
    have hm : mF t n q p = true := if_pos (Or.inr (by rw [hh]; decide))
    refine ⟨fun h => absurd h (by rw [hm]; decide), fun _ h2 => absurd h2 (by rw [hh]; decide), fun _ _ => ?_⟩
    rw [pF_e (by omega), h3]
    show (if (4 : Int32) = 5 then (-1 : Int32) else nI p) = nI p
    exact if_neg (by decide)
/-- where an opening stands in the class's parser -/
theorem cOp {t : Nat → Int32} {n p : Nat} {a : gST} (hp : p ≤ n) (h3 : a.1 356 3 = 1 ∨ a.1 356 3 = 5) :
    (p < n → ¬ hr t n p = 40 → (pF t n p a).1 = nI p) ∧ (hr t n p = 40 → p + 1 ≤ n ∧ pF t n p a = pF t n (p + 1) (gBc (gPut a 356 7 0) 0)) := by
  have e1 : ∀ c, gAcc a c = gA1 a c := fun c => by
    rcases h3 with h | h
    · exact gAcc_1 (by rw [h]; decide)
    · exact gAcc_5 (by rw [h]; decide)
  constructor
  · intro hpn h
    rw [hr_i hpn] at h
    rw [pF_s hpn, e1]
    unfold gA1
    rw [if_neg h]
    rfl
  · intro h
    have hpn : p < n := hr_lt h (by decide)
    rw [hr_i hpn] at h
    refine ⟨hpn, ?_⟩
    rw [pF_s hpn, e1]
    unfold gA1
    rw [if_pos h]
    rfl
