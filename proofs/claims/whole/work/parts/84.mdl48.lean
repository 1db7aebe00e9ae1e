/-- a point that is too much -/
def bad2 (x y : Int32) (c p : Nat) : Prop := ¬ (-200 ≤ x.toInt ∧ x.toInt ≤ 1200) ∨ ¬ (-200 ≤ y.toInt ∧ y.toInt ≤ 1200) ∨ 12 ≤ p ∨ 3 ≤ c
/-- how many points before a contour -/
def pOf (N : Nat → Nat) : Nat → Nat
  | 0 => 0
  | c + 1 => pOf N c + N c
theorem pOf_u {N : Nat → Nat} {K v : Nat} : ∀ c, c ≤ K → pOf (nU N K v) c = pOf N c
  | 0, _ => rfl
  | c + 1, h => by
    show pOf (nU N K v) c + nU N K v c = pOf N c + N c
    rw [pOf_u c (by omega), nU_n _ _ (by omega)]
theorem pOf_le {N : Nat → Nat} {c : Nat} : ∀ d, c ≤ d → pOf N c ≤ pOf N d
  | 0, h => by rw [show c = 0 by omega]; exact Nat.le_refl _
  | d + 1, h => by
    by_cases h1 : c = d + 1
    · rw [h1]; exact Nat.le_refl _
    · have := pOf_le (N := N) (c := c) d (by omega)
      show _ ≤ pOf N d + N d
      omega
theorem pOf_lt {N : Nat → Nat} {c p K : Nat} (h : c ≤ K) (hp : p < N c) : pOf N c + p < pOf N (K + 1) := by
  have h1 := pOf_le (N := N) (c := c + 1) (K + 1) (by omega)
  have h2 : pOf N (c + 1) = pOf N c + N c := rfl
  omega
/-- what the class and the model have read -/
def pDR (a : gST) (K : Nat) (N : Nat → Nat) (b : Bool) (rd : Nat → Int32) : Prop :=
  (∀ c p, c ≤ K → p < N c → c < 3 → p < 12 → rd (2 * (12 * c + p)) = a.1 358 (pOf N c + p) ∧ rd (2 * (12 * c + p) + 1) = a.1 360 (pOf N c + p)) ∧
  (b = true ↔ ∃ c p, c ≤ K ∧ p < N c ∧ bad2 (a.1 358 (pOf N c + p)) (a.1 360 (pOf N c + p)) c p)
theorem pDR_add {a a' : gST} {K q : Nat} {N : Nat → Nat} {b b' : Bool} {rd : Nat → Int32} {x y : Int32} (h : pDR a K N b rd) (hq : N K = q) (hx : a'.1 358 = upd (a.1 358) (pOf N (K + 1)) x) (hy : a'.1 360 = upd (a.1 360) (pOf N (K + 1)) y)
    (hb : b' = true ↔ (b = true ∨ bad2 x y K q)) : pDR a' K (nU N K (q + 1)) b' (rD q K x y rd) := by
  obtain ⟨h1, h2⟩ := h
  have eK : pOf N (K + 1) = pOf N K + q := by rw [← hq]; rfl
  have old : ∀ c p, c ≤ K → p < N c → a'.1 358 (pOf N c + p) = a.1 358 (pOf N c + p) ∧ a'.1 360 (pOf N c + p) = a.1 360 (pOf N c + p) := fun c p q1 q2 => by
    have := pOf_lt q1 q2
    rw [hx, hy, uN, uN, if_neg (by omega), if_neg (by omega)]
    exact ⟨rfl, rfl⟩
  have new : a'.1 358 (pOf N K + q) = x ∧ a'.1 360 (pOf N K + q) = y := by
    rw [hx, hy, eK, uN, uN, if_pos rfl, if_pos rfl]
    exact ⟨rfl, rfl⟩
  have cas : ∀ c p, c ≤ K → p < nU N K (q + 1) c → (p < N c) ∨ (c = K ∧ p = q) := fun c p q1 q2 => by
    by_cases hc : c = K
    · subst hc
      rw [nU_s] at q2
      omega
    · rw [nU_n _ _ hc] at q2
      exact Or.inl q2
  refine ⟨fun c p q1 q2 q3 q4 => ?_, ?_⟩
  · rw [pOf_u c q1]
    rcases cas c p q1 q2 with h3 | ⟨h3, h4⟩
    · obtain ⟨o1, o2⟩ := old c p q1 h3
      obtain ⟨g1, g2⟩ := h1 c p q1 h3 q3 q4
      rw [o1, o2, ← g1, ← g2]
      have hne : ¬ (c = K ∧ p = q) := fun h9 => by
        have e1 := h9.1
        subst e1
        omega
      unfold rD fF
      by_cases hf : q < 12 ∧ K < 3
      · rw [if_pos hf, if_pos rfl, uN, uN, uN, uN, if_neg (by omega), if_neg (by omega), if_neg (by omega), if_neg (by omega)]
        exact ⟨rfl, rfl⟩
      · rw [if_neg hf, if_neg (by decide)]
        exact ⟨rfl, rfl⟩
    · subst h3 h4
      rw [new.1, new.2]
      have ef : fF p c = true := if_pos ⟨q4, q3⟩
      have er : rD p c x y rd = upd (upd rd (2 * (12 * c + p)) x) (2 * (12 * c + p) + 1) y := if_pos ef
      rw [er, uN, uN, uN, uN, if_neg (by omega), if_pos rfl, if_pos rfl]
      exact ⟨rfl, rfl⟩
  · rw [hb, h2]
    constructor
    · rintro (⟨c, p, q1, q2, q3⟩ | h3)
      · obtain ⟨o1, o2⟩ := old c p q1 q2
        refine ⟨c, p, q1, ?_, ?_⟩
        · by_cases hc : c = K
          · subst hc; rw [nU_s]; omega
          · rw [nU_n _ _ hc]; exact q2
        · rw [pOf_u c q1, o1, o2]; exact q3
      · refine ⟨K, q, Nat.le_refl _, by rw [nU_s]; omega, ?_⟩
        rw [pOf_u K (Nat.le_refl _), new.1, new.2]
        exact h3
    · rintro ⟨c, p, q1, q2, q3⟩
      rw [pOf_u c q1] at q3
      rcases cas c p q1 q2 with h3 | ⟨h3, h4⟩
      · obtain ⟨o1, o2⟩ := old c p q1 h3
        rw [o1, o2] at q3
        exact Or.inl ⟨c, p, q1, h3, q3⟩
      · subst h3 h4
        rw [new.1, new.2] at q3
        exact Or.inr q3
