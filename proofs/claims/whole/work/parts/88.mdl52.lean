theorem nI_n1 {p : Nat} (h : p < 2 ^ 31) : ¬ nI p = -1 := fun h9 => by
  have := congrArg Int32.toInt h9
  rw [nI_toInt h, show ((-1 : Int32)).toInt = -1 by decide] at this
  omega
theorem pOf_1 {N : Nat → Nat} {c K : Nat} (h : c < K) : N c ≤ pOf N K := by
  have h1 := pOf_le (N := N) (c := c + 1) K (by omega)
  have h2 : pOf N (c + 1) = pOf N c + N c := rfl
  omega
theorem pOf_ex {N : Nat → Nat} : ∀ (K i : Nat), i < pOf N K → ∃ c p, c < K ∧ p < N c ∧ i = pOf N c + p
  | 0, i, h => absurd h (Nat.not_lt_zero _)
  | K + 1, i, h => by
    by_cases h1 : i < pOf N K
    · obtain ⟨c, p, q1, q2, q3⟩ := pOf_ex K i h1
      exact ⟨c, p, by omega, q2, q3⟩
    · have h2 : pOf N (K + 1) = pOf N K + N K := rfl
      exact ⟨K, i - pOf N K, by omega, by omega, by omega⟩
theorem gFp_i {fx fy : Nat → Int32} : ∀ (m i : Nat), gFp fx fy i m = true ↔ ∀ j, i ≤ j → j < i + m → (-200 ≤ (fx j).toInt ∧ (fx j).toInt ≤ 1200) ∧ (-200 ≤ (fy j).toInt ∧ (fy j).toInt ≤ 1200) := by
  intro m
  induction m with
  | zero => intro i; exact ⟨fun _ j h1 h2 => by omega, fun _ => rfl⟩
  | succ m ih =>
    intro i
    show (if gWi (fx i).toInt (-200) 1200 = 0 then false else if gWi (fy i).toInt (-200) 1200 = 0 then false else gFp fx fy (i + 1) m) = true ↔ _
    by_cases h1 : -200 ≤ (fx i).toInt ∧ (fx i).toInt ≤ 1200
    · rw [gWi_t h1, if_neg (by decide)]
      by_cases h2 : -200 ≤ (fy i).toInt ∧ (fy i).toInt ≤ 1200
      · rw [gWi_t h2, if_neg (by decide), ih]
        constructor
        · intro h j q1 q2
          by_cases hj : j = i
          · rw [hj]; exact ⟨h1, h2⟩
          · exact h j (by omega) (by omega)
        · intro h j q1 q2
          exact h j (by omega) (by omega)
      · rw [gWi_f h2, if_pos rfl]
        exact ⟨fun h => absurd h (by decide), fun h => absurd (h i (Nat.le_refl _) (by omega)).2 h2⟩
    · rw [gWi_f h1, if_pos rfl]
      exact ⟨fun h => absurd h (by decide), fun h => absurd (h i (Nat.le_refl _) (by omega)).1 h1⟩
theorem gFc_i {f : Nat → Int32} : ∀ (m i : Nat), gFc f i m = true ↔ ∀ j, i ≤ j → j < i + m → ¬ 12 < f j := by
  intro m
  induction m with
  | zero => intro i; exact ⟨fun _ j h1 h2 => by omega, fun _ => rfl⟩
  | succ m ih =>
    intro i
    show (if 12 < f i then false else gFc f (i + 1) m) = true ↔ _
    by_cases h1 : 12 < f i
    · rw [if_pos h1]
      exact ⟨fun h => absurd h (by decide), fun h => absurd h1 (h i (Nat.le_refl _) (by omega))⟩
    · rw [if_neg h1, ih]
      constructor
      · intro h j q1 q2
        by_cases hj : j = i
        · rw [hj]; exact h1
        · exact h j (by omega) (by omega)
      · intro h j q1 q2
        exact h j (by omega) (by omega)
theorem nI_12 {a b : Nat} (ha : a < 2 ^ 31) (hb : b < 2 ^ 31) : nI a < nI b ↔ a < b := ⟨fun h => Nat.not_le.mp (fun h9 => nI_nlt3 h9 ha h), fun h => nI_lt h hb⟩
/-- what fits: no point is too much -/
theorem gFits_i {a : gST} {K : Nat} {N : Nat → Nat} {b : Bool} {rd : Nat → Int32} (hK : K ≤ 60) (h5 : a.1 356 5 = nI K) (h6 : a.1 356 6 = nI (pOf N K)) (hm : pOf N K ≤ 60) (hc : ∀ c, c < K → a.1 362 c = nI (N c)) (h0 : ∀ c, c < K → 0 < N c) (hD : pDC a K N b rd) : gFits a = 0 ↔ b = true := by
  have e5 : nA (a.1 356 5) = K := by rw [h5]; exact nA_nI (by omega)
  have e6 : nA (a.1 356 6) = pOf N K := by rw [h6]; exact nA_nI (by omega)
  have hN : ∀ c, c < K → N c ≤ 60 := fun c h => by have := pOf_1 (N := N) h; omega
  rw [hD.2]
  unfold gFits
  rw [e5, e6, h5]
  constructor
  · intro h
    refine Classical.byContradiction (fun h9 => ?_)
    have hall : ∀ c p, c < K → p < N c → ¬ bad2 (a.1 358 (pOf N c + p)) (a.1 360 (pOf N c + p)) c p := fun c p q1 q2 q3 => h9 ⟨c, p, q1, q2, q3⟩
    refine absurd (h.symm.trans (if_pos ⟨(gFp_i _ _).mpr (fun j _ hj => ?_), (gFc_i _ _).mpr (fun j _ hj => ?_), fun hlt => ?_⟩)) (by decide)
    · obtain ⟨c, p, q1, q2, q3⟩ := pOf_ex (N := N) K j (by omega)
      have := hall c p q1 q2
      rw [← q3] at this
      exact ⟨Classical.not_not.mp (fun h8 => this (Or.inl h8)), Classical.not_not.mp (fun h8 => this (Or.inr (Or.inl h8)))⟩
    · intro hlt
      rw [hc j (by omega)] at hlt
      have h12 := (nI_12 (a := 12) (b := N j) (by omega) (by have := hN j (by omega); omega)).mp hlt
      exact hall j 12 (by omega) h12 (Or.inr (Or.inr (Or.inl (Nat.le_refl _))))
    · have h3 := (nI_12 (a := 3) (b := K) (by omega) (by omega)).mp hlt
      exact hall 3 0 h3 (h0 3 h3) (Or.inr (Or.inr (Or.inr (Nat.le_refl _))))
  · rintro ⟨c, p, q1, q2, q3⟩
    refine if_neg (fun ⟨g1, g2, g3⟩ => ?_)
    have g1 := (gFp_i _ _).mp g1
    have g2 := (gFc_i _ _).mp g2
    have hlt : pOf N c + p < pOf N K := by
      have h1 := pOf_le (N := N) (c := c + 1) K (by omega)
      have h2 : pOf N (c + 1) = pOf N c + N c := rfl
      omega
    rcases q3 with q3 | q3 | q3 | q3
    · exact q3 (g1 _ (Nat.zero_le _) (by omega)).1
    · exact q3 (g1 _ (Nat.zero_le _) (by omega)).2
    · refine g2 c (Nat.zero_le _) (by omega) ?_
      rw [hc c q1]
      exact (nI_12 (a := 12) (b := N c) (by omega) (by have := hN c q1; omega)).mpr (by omega)
    · exact g3 ((nI_12 (a := 3) (b := K) (by omega) (by omega)).mpr (by omega))
