theorem cW1_t {t : Nat → Int32} {n p : Nat} : cW1 t n p true = true := if_pos (Or.inl rfl)
theorem cP_t {t : Nat → Int32} {n p : Nat} : cP t n p true = p := (if_pos cW1_t).trans (if_neg (fun h9 => by cases h9.2))
theorem wW_t {t : Nat → Int32} {n p : Nat} {c : Int32} : wW t n c p true = true := if_pos (Or.inl rfl)
theorem wP_t {t : Nat → Int32} {n p : Nat} {c : Int32} : wP t n c p true = p := if_pos (Or.inl rfl)
theorem wW_f {t : Nat → Int32} {n p : Nat} {c : Int32} (h : ¬ hr t n p = c) : wW t n c p false = true ∧ wP t n c p false = p := ⟨if_pos (Or.inr h), if_pos (Or.inr h)⟩
theorem wW_y {t : Nat → Int32} {n p : Nat} {c : Int32} (h : hr t n p = c) : wW t n c p false = false ∧ wP t n c p false = p + 1 :=
  ⟨if_neg (fun h9 => h9.elim (fun h8 => by cases h8) (fun h8 => h8 h)), if_neg (fun h9 => h9.elim (fun h8 => by cases h8) (fun h8 => h8 h))⟩
/-- the comma after a number in the class's parser -/
theorem cKm {t : Nat → Int32} {n p : Nat} {a : gST} (hp : p ≤ n) (h3 : a.1 356 3 = 4) (h8 : a.1 356 8 = 0) (hr0 : p < n → (gAn a (t p)).1 = 0) :
    (wW t n 44 p false = true → (pF t n p a).1 = nI p) ∧
    (wW t n 44 p false = false → pF t n p a = pF t n (p + 1) (gBc (gPut a 358 (nA (a.1 356 6)) (gSv a)) 1)) := by
  by_cases hpn : p < n
  · have hn := hr0 hpn
    have ea : gAcc a (t p) = (if (if t p = 44 then (1 : Int32) else 0) = 0 then 0 else 1, gBc (gPut a 358 (nA (a.1 356 6)) (gSv a)) 1) := by
      rw [gAcc_4 (by rw [h3]; decide), if_pos hn, gAn_0 hn]
      unfold gAe
      rw [if_pos h8]
      rfl
    rw [pF_s hpn, ea]
    by_cases hc : t p = 44
    · have hw := (wW_y (t := t) (n := n) (p := p) (c := 44) ((hr_i hpn).trans hc)).1
      refine ⟨fun h => absurd h (by rw [hw]; decide), fun _ => ?_⟩
      rw [if_pos hc]
      rfl
    · refine ⟨fun _ => ?_, fun h => ?_⟩
      · rw [if_neg hc]
        rfl
      · rw [(wW_f (t := t) (n := n) (p := p) (c := 44) (fun h9 => hc ((hr_i hpn).symm.trans h9))).1] at h; cases h
  · refine ⟨fun _ => ?_, fun h => ?_⟩
    · rw [pF_e (by omega), h3]
      show (if (4 : Int32) = 5 then (-1 : Int32) else nI p) = nI p
      exact if_neg (by decide)
    · rw [(wW_f (t := t) (n := n) (p := p) (c := 44) (fun h9 => hpn (hr_lt h9 (by decide)))).1] at h; cases h
/-- a point in the class's parser, up to the end of its second number -/
theorem cPt {t : Nat → Int32} {n p p2 p3 p4 : Nat} {w2 w3 w4 : Bool} {x y : Int32} {a : gST} (hp : p ≤ n) (h3 : a.1 356 3 = 2) (h9 : a.1 356 9 = 0) (h8 : a.1 356 8 = 0)
    (e2 : p2 = cP t n p false) (f2 : w2 = cW1 t n p false) (ex : x = cV t n p false) (e3 : p3 = wP t n 44 p2 w2) (f3 : w3 = wW t n 44 p2 w2) (e4 : p4 = cP t n p3 w3) (f4 : w4 = cW1 t n p3 w3) (ey : y = cV t n p3 w3) :
    (w4 = true → (pF t n p a).1 = nI p4) ∧
    (w4 = false → ∃ a', pF t n p a = pF t n p4 a' ∧ p4 ≤ n ∧ a'.1 356 3 = 4 ∧ a'.1 356 8 = 1 ∧ gSv a' = y ∧ (p4 < n → (gAn a' (t p4)).1 = 0) ∧ a'.1 358 = upd (a.1 358) (nA (a.1 356 6)) x ∧
      (∀ k, k ≠ 356 → k ≠ 358 → a'.1 k = a.1 k) ∧ (∀ j, j ≠ 3 → j ≠ 8 → j ≠ 9 → j ≠ 10 → j ≠ 11 → a'.1 356 j = a.1 356 j) ∧ a'.2 = a.2) := by
  obtain ⟨c1, c2⟩ := cL (t := t) (n := n) (p := p) hp h3 h9
  have hp2 := (cP_le (t := t) (w := false) hp).2
  cases w2 with
  | true =>
    rw [wW_t] at f3
    rw [wP_t] at e3
    subst f3 e3
    rw [cP_t] at e4
    rw [cW1_t] at f4
    subst e4 f4
    refine ⟨fun _ => ?_, fun h => absurd h (by decide)⟩
    rw [e2, c1 f2.symm]
    exact congrArg nI (if_pos f2.symm).symm
  | false =>
    obtain ⟨a1, g1, g2, g3, g4, g5⟩ := c2 f2.symm
    rw [← e2] at g1 g5 hp2
    have h81 : a1.1 356 8 = 0 := (g4.2.1 8 (by decide) (by decide) (by decide) (by decide)).trans h8
    have h61 : a1.1 356 6 = a.1 356 6 := g4.2.1 6 (by decide) (by decide) (by decide) (by decide)
    obtain ⟨k1, k2⟩ := cKm hp2 g2 h81 g5
    cases w3 with
    | true =>
      rw [cP_t] at e4
      rw [cW1_t] at f4
      have e5 : p3 = p2 := by
        rw [e3]
        unfold wW at f3
        unfold wP
        by_cases hh : false = true ∨ ¬ hr t n p2 = 44
        · exact if_pos hh
        · rw [if_neg hh] at f3; cases f3
      subst f4
      refine ⟨fun _ => ?_, fun h => absurd h (by decide)⟩
      rw [g1, k1 f3.symm, e4, e5]
    | false =>
      have e5 : p3 = p2 + 1 ∧ p2 + 1 ≤ n := by
        rw [e3]
        unfold wW at f3
        unfold wP
        by_cases hh : false = true ∨ ¬ hr t n p2 = 44
        · rw [if_pos hh] at f3; cases f3
        · exact ⟨if_neg hh, hr_lt (c := 44) (Classical.not_not.mp (fun h9 => hh (Or.inr h9))) (by decide)⟩
      obtain ⟨e5, hp3⟩ := e5
      have hb3 : (gBc (gPut a1 358 (nA (a1.1 356 6)) (gSv a1)) 1).1 356 3 = 2 := by unfold gBc; rw [gPut_at, if_neg (by decide), gPut_at, if_neg (by decide), gPut_at, if_pos ⟨rfl, rfl⟩]
      have hb9 : (gBc (gPut a1 358 (nA (a1.1 356 6)) (gSv a1)) 1).1 356 9 = 0 := by unfold gBc; rw [gPut_at, if_pos ⟨rfl, rfl⟩]
      have hb8 : (gBc (gPut a1 358 (nA (a1.1 356 6)) (gSv a1)) 1).1 356 8 = 1 := by unfold gBc; rw [gPut_at, if_neg (by decide), gPut_at, if_pos ⟨rfl, rfl⟩]
      obtain ⟨d1, d2⟩ := cL (t := t) (n := n) (p := p2 + 1) hp3 hb3 hb9
      rw [e5] at e4 f4 ey
      have ep := g1.trans (k2 f3.symm)
      cases w4 with
      | true =>
        refine ⟨fun _ => ?_, fun h => absurd h (by decide)⟩
        rw [ep, d1 f4.symm, e4]
        exact congrArg nI (if_pos f4.symm).symm
      | false =>
        refine ⟨fun h => by (cases h), fun _ => ?_⟩
        obtain ⟨a2, m1, m2, m3, m4, m5⟩ := d2 f4.symm
        have hp4 := (cP_le (t := t) (w := false) hp3).2
        rw [← e4] at m1 m5 hp4
        refine ⟨a2, ep.trans m1, hp4, m2, (m4.2.1 8 (by decide) (by decide) (by decide) (by decide)).trans hb8, m3.trans ey.symm, m5, ?_, fun k q1 q2 => ?_, fun j q1 q2 q3 q4 q5 => ?_, ?_⟩
        · rw [m4.1 358 (by decide)]
          unfold gBc
          rw [gPut_ne _ _ _ (by decide), gPut_ne _ _ _ (by decide), gPut_ne _ _ _ (by decide), gPut_s, g4.1 358 (by decide), h61, g3, ex]
        · rw [m4.1 k q1]
          unfold gBc
          rw [gPut_ne _ _ _ q1, gPut_ne _ _ _ q1, gPut_ne _ _ _ q1, gPut_ne _ _ _ q2]
          exact g4.1 k q1
        · rw [m4.2.1 j q1 q3 q4 q5]
          unfold gBc
          rw [gPut_at, if_neg (by omega), gPut_at, if_neg (by omega), gPut_at, if_neg (by omega), gPut_ne _ _ _ (by decide)]
          exact g4.2.1 j q1 q3 q4 q5
        · exact m4.2.2.trans g4.2.2
