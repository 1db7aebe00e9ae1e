/-- the class's parser from the sign i on -/
def pF (t : Nat → Int32) (n i : Nat) (a : gST) : Int32 × gST := gFi t i (n - i) a
theorem pF_e {t : Nat → Int32} {n i : Nat} {a : gST} (h : n ≤ i) : pF t n i a = (if a.1 356 3 = 5 then -1 else nI i, a) := by
  unfold pF
  rw [show n - i = 0 by omega]
  rfl
theorem pF_s {t : Nat → Int32} {n i : Nat} {a : gST} (h : i < n) : pF t n i a = if (gAcc a (t i)).1 = 0 then (nI i, (gAcc a (t i)).2) else pF t n (i + 1) (gAcc a (t i)).2 := by
  unfold pF
  rw [show n - i = (n - (i + 1)) + 1 by omega]
  rfl
theorem hr_i {t : Nat → Int32} {n p : Nat} (h : p < n) : hr t n p = t p := if_pos h
/-- only the number's fields differ -/
def cSm (a a' : gST) : Prop := (∀ k, k ≠ 356 → a'.1 k = a.1 k) ∧ (∀ j, j ≠ 3 → j ≠ 9 → j ≠ 10 → j ≠ 11 → a'.1 356 j = a.1 356 j) ∧ a'.2 = a.2
theorem cSm.rf (a : gST) : cSm a a := ⟨fun _ _ => rfl, fun _ _ _ _ _ => rfl, rfl⟩
theorem cSm.tr {a b c : gST} (h : cSm a b) (h2 : cSm b c) : cSm a c := ⟨fun k h3 => (h2.1 k h3).trans (h.1 k h3), fun j q1 q2 q3 q4 => (h2.2.1 j q1 q2 q3 q4).trans (h.2.1 j q1 q2 q3 q4), h2.2.2.trans h.2.2⟩
theorem cSm.put {a b : gST} (h : cSm a b) {j : Nat} (hj : j = 3 ∨ j = 9 ∨ j = 10 ∨ j = 11) (v : Int32) : cSm a (gPut b 356 j v) :=
  ⟨fun k hk => (gPut_ne _ _ _ hk).trans (h.1 k hk), fun i q1 q2 q3 q4 => by rw [gPut_at, if_neg (by omega)]; exact h.2.1 i q1 q2 q3 q4, h.2.2⟩
theorem dg_val {v c : Int32} (h1 : 0 ≤ v.toInt) (h2 : v.toInt < 100000) (h3 : 48 ≤ c.toInt) (h4 : c.toInt ≤ 57) : (10 * v + c - 48).toInt = 10 * v.toInt + c.toInt - 48 := by
  have e10 : (10 * v).toInt = 10 * v.toInt := by
    rw [Int32.toInt_mul]
    show ((10 : Int) * v.toInt).bmod (2 ^ 32) = _
    exact Int.bmod_eq_of_le_mul_two (by omega) (by omega)
  have e1 : (10 * v + c).toInt = 10 * v.toInt + c.toInt := by
    rw [Int32.toInt_add, e10]
    exact Int.bmod_eq_of_le_mul_two (by omega) (by omega)
  rw [Int32.toInt_sub, e1]
  show (10 * v.toInt + c.toInt - 48).bmod (2 ^ 32) = _
  exact Int.bmod_eq_of_le_mul_two (by omega) (by omega)
theorem dg_eq (v c : Int32) : v * 10 + (c - 48) = 10 * v + c - 48 := by
  rw [Int32.mul_comm, Int32.sub_eq_add_neg, Int32.sub_eq_add_neg, Int32.add_assoc]
/-- the digits after the first, in the class's parser -/
theorem dL {t : Nat → Int32} {n : Nat} : ∀ (k d p : Nat) (v : Int32) (a : gST), d + k = 4 → p ≤ n → a.1 356 3 = 4 → a.1 356 10 = nI d → a.1 356 11 = v → 0 ≤ v.toInt → v.toInt < 10 ^ d →
    ∃ a', pF t n p a = pF t n (dNum t n k p v).1 a' ∧ a'.1 356 3 = 4 ∧ a'.1 356 11 = (dNum t n k p v).2 ∧ a'.1 356 9 = a.1 356 9 ∧ cSm a a' ∧ ((dNum t n k p v).1 < n → (gAn a' (t (dNum t n k p v).1)).1 = 0) := by
  intro k
  induction k with
  | zero =>
    intro d p v a hd hp h3 h10 h11 hv1 hv2
    refine ⟨a, rfl, h3, h11, rfl, cSm.rf a, fun _ => ?_⟩
    have hd4 : d = 4 := by omega
    unfold gAn
    split
    · rfl
    · split
      · rfl
      · rw [h10, hd4, if_neg (by decide)]
  | succ k ih =>
    intro d p v a hd hp h3 h10 h11 hv1 hv2
    have hd3 : d ≤ 3 := by omega
    have hpow : (10 : Int) ^ d ≤ 1000 := by
      rcases (by omega : d = 0 ∨ d = 1 ∨ d = 2 ∨ d = 3) with h | h | h | h <;> subst h <;> decide
    by_cases hc : 0 < v ∧ 48 ≤ (hr t n p).toInt ∧ (hr t n p).toInt ≤ 57
    · have hpn := dg_lt hc.2
      rw [show dNum t n (k + 1) p v = dNum t n k (p + 1) (10 * v + hr t n p - 48) from if_pos hc]
      have hv0 : ¬ v = 0 := fun h9 => by have := i32_lt.mp hc.1; rw [h9] at this; exact absurd this (by decide)
      obtain ⟨hc1, hc2, hc3⟩ := hc
      have hval := dg_val hv1 (show v.toInt < 100000 by omega) hc2 hc3
      rw [hr_i hpn] at hc2 hc3 hval ⊢
      have e : gAn a (t p) = (1, gPut (gPut a 356 10 (nI (d + 1))) 356 11 (10 * v + t p - 48)) := by
        unfold gAn
        rw [gWi_t ⟨hc2, hc3⟩, if_neg (by decide), h11, if_neg hv0, h10, if_pos (show nI d < 4 from nI_lt (a := d) (b := 4) (by omega) (by omega)), nI_1, dg_eq]
      obtain ⟨a', e1, e2, e3, e4, e5, e6⟩ := ih (d + 1) (p + 1) (10 * v + t p - 48) (gPut (gPut a 356 10 (nI (d + 1))) 356 11 (10 * v + t p - 48)) (by omega) (by omega)
        (by rw [gPut_at, if_neg (by decide), gPut_at, if_neg (by decide)]; exact h3) (by rw [gPut_at, if_neg (by decide), gPut_at, if_pos ⟨rfl, rfl⟩]) (by rw [gPut_at, if_pos ⟨rfl, rfl⟩]) (by rw [hval]; omega)
        (by rw [hval, Int.pow_succ]; omega)
      refine ⟨a', ?_, e2, e3, e4.trans (by rw [gPut_at, if_neg (by decide), gPut_at, if_neg (by decide)]), (((cSm.rf a).put (by decide) _).put (by decide) _).tr e5, e6⟩
      have e9 : gAcc a (t p) = (1, gPut (gPut a 356 10 (nI (d + 1))) 356 11 (10 * v + t p - 48)) := by
        rw [gAcc_4 (by rw [h3]; decide), e]
        exact if_neg (show ¬ (1 : Int32) = 0 by decide)
      rw [pF_s hpn, e9]
      exact (if_neg (show ¬ (1 : Int32) = 0 by decide)).trans e1
    · rw [show dNum t n (k + 1) p v = (p, v) from if_neg hc]
      refine ⟨a, rfl, h3, h11, rfl, cSm.rf a, fun hpn => ?_⟩
      rw [hr_i hpn] at hc
      unfold gAn
      by_cases c1 : 48 ≤ (t p).toInt ∧ (t p).toInt ≤ 57
      · rw [gWi_t c1, if_neg (by decide), h11]
        by_cases c2 : v = 0
        · rw [if_pos c2]
        · exact absurd ⟨i32_lt.mpr (by
            have : ¬ v.toInt = 0 := fun h9 => c2 (Int32.toInt_inj.mp (h9.trans (by decide)))
            rw [show ((0 : Int32)).toInt = 0 by decide]; omega), c1⟩ hc
      · rw [gWi_f c1, if_pos rfl]
