/-- a contour that ends well has three points at least -/
theorem rLp_3 {t : Nat → Int32} {n K : Nat} : ∀ (f q p : Nat) (b : Bool) (rd : Nat → Int32), 3 ≤ q + f → (rLp t n K f q p b rd).2.2.1 = false → 3 ≤ (rLp t n K f q p b rd).1 ∧ (rLp t n K f q p b rd).1 ≤ q + f
  | 0, q, p, b, rd, h1, _ => ⟨h1, Nat.le_refl _⟩
  | f + 1, q, p, b, rd, h1, h2 => by
    unfold rLp at h2 ⊢
    by_cases hx : rW4 t n q p = false ∧ mF t n q (rP4 t n q p) = true
    · rw [if_pos hx] at h2 ⊢
      obtain ⟨g1, g2⟩ := rLp_3 f (q + 1) _ _ _ (by omega) h2
      exact ⟨g1, by omega⟩
    · rw [if_neg hx] at h2 ⊢
      refine ⟨?_, ?_⟩
      · show 3 ≤ q + 1
        refine Classical.byContradiction (fun h9 => hx ⟨h2, ?_⟩)
        unfold mF
        rw [if_pos (Or.inl (by omega))]
      · show q + 1 ≤ q + (f + 1)
        omega
theorem rRes_3 {t : Nat → Int32} {n K p : Nat} {b : Bool} {rd : Nat → Int32} (h : rEw t n K p b rd = false) : 3 ≤ (rRes t n K p b rd).1 ∧ (rRes t n K p b rd).1 ≤ 61 := by
  have h5 : (rRes t n K p b rd).2.2.1 = false := by
    cases h6 : (rRes t n K p b rd).2.2.1 with
    | false => rfl
    | true =>
      unfold rEw wW at h
      rw [if_pos (Or.inl h6)] at h; cases h
  unfold rRes at h5 ⊢
  by_cases hx : wW t n 40 p false = true
  · rw [if_pos hx] at h5; cases h5
  · rw [if_neg hx] at h5 ⊢
    have := rLp_3 61 0 (p + 1) b rd (by decide) h5
    omega
theorem rM_3 {q : Nat} (h : q ≤ 100) : 3 ≤ (rM q).toInt ↔ 3 ≤ q := by
  unfold rM
  by_cases hx : (12 : Int32) < nI q
  · rw [if_pos hx]
    have := (nI_12 (a := 12) (b := q) (by omega) (by omega)).mp hx
    exact ⟨fun _ => by omega, fun _ => by decide⟩
  · rw [if_neg hx, nI_toInt (by omega)]
    omega
theorem rM_12 {q : Nat} (h : q ≤ 12) : rM q = nI q := by
  unfold rM
  exact if_neg (fun h9 => by
    have := (nI_12 (a := 12) (b := q) (by omega) (by omega)).mp h9
    omega)
theorem gLp_3 {t : Nat → Int32} {n : Nat} : ∀ (f K p : Nat) (b : Bool) (rd rm : Nat → Int32), (∀ c, c < K → c < 3 → 3 ≤ (rm c).toInt) → (gLp t n f K p b rd rm).2.2.1 = false → ∀ c, c < (gLp t n f K p b rd rm).1 → c < 3 → 3 ≤ ((gLp t n f K p b rd rm).2.2.2.2.2 c).toInt
  | 0, K, p, b, rd, rm, h, _ => h
  | f + 1, K, p, b, rd, rm, h, h2 => by
    by_cases hx : K = 0 ∨ p < n
    · cases hw : rEw t n K p b rd with
      | true => rw [gLp_w hx hw] at h2; cases h2
      | false =>
        rw [gLp_s hx hw] at h2 ⊢
        refine gLp_3 f (K + 1) _ _ _ _ (fun c q1 q2 => ?_) h2
        obtain ⟨g1, g2⟩ := rRes_3 hw
        unfold rmU
        by_cases hK : K < 3
        · rw [if_pos hK, uN]
          by_cases hc : c = K
          · rw [if_pos hc]; exact (rM_3 (by omega)).mpr g1
          · rw [if_neg hc]; exact h c (by omega) q2
        · rw [if_neg hK]; exact h c (by omega) q2
    · rw [gLp_e hx]; exact h
/-- the points of a contour drawn, one by one -/
def dpI (ρ w : gST) (g c q j : Nat) (a : gST) : Prop :=
  (∀ k, k ≠ 8 → k ≠ 10 → k ≠ 12 → a.1 k = w.1 k) ∧ a.2 = w.2 ∧ a.1 8 (g * 3 + c) = nI j ∧ (∀ x, x ≠ g * 3 + c → a.1 8 x = w.1 8 x) ∧
  (∀ p, p < j → a.1 10 ((g * 3 + c) * 12 + p) = ρ.1 358 (q + p) ∧ a.1 12 ((g * 3 + c) * 12 + p) = ρ.1 360 (q + p)) ∧
  (∀ x, ¬ ((g * 3 + c) * 12 ≤ x ∧ x < (g * 3 + c) * 12 + 12) → a.1 10 x = w.1 10 x ∧ a.1 12 x = w.1 12 x)
theorem dpI_s {ρ w : gST} {g c q j : Nat} {a : gST} (hj : j < 12) (h : dpI ρ w g c q j a) : dpI ρ w g c q (j + 1) (gDrP ρ g c q j a) := by
  obtain ⟨h1, h2, h3, h4, h5, h6⟩ := h
  obtain ⟨a', ha⟩ : ∃ a', a' = gDrP ρ g c q j a := ⟨_, rfl⟩
  have e8 : ∀ x, a'.1 8 x = if x = g * 3 + c then nI (j + 1) else a.1 8 x := fun x => by rw [ha]; unfold gDrP; rw [gPut_s, uN, gPut_ne _ _ _ (by decide), gPut_ne _ _ _ (by decide)]
  have e12 : ∀ x, a'.1 12 x = if x = (g * 3 + c) * 12 + j then ρ.1 360 (q + j) else a.1 12 x := fun x => by rw [ha]; unfold gDrP; rw [gPut_ne _ _ _ (by decide), gPut_s, uN, gPut_ne _ _ _ (by decide)]
  have e10 : ∀ x, a'.1 10 x = if x = (g * 3 + c) * 12 + j then ρ.1 358 (q + j) else a.1 10 x := fun x => by rw [ha]; unfold gDrP; rw [gPut_ne _ _ _ (by decide), gPut_ne _ _ _ (by decide), gPut_s, uN]
  rw [← ha]
  refine ⟨fun k q1 q2 q3 => ?_, ?_, ?_, fun x hx => ?_, fun p hp => ?_, fun x hx => ?_⟩
  · rw [ha]; unfold gDrP; rw [gPut_ne _ _ _ q1, gPut_ne _ _ _ q3, gPut_ne _ _ _ q2]; exact h1 k q1 q2 q3
  · rw [ha]; exact h2
  · rw [e8, if_pos rfl]
  · rw [e8, if_neg hx]; exact h4 x hx
  · rw [e10, e12]
    by_cases hpj : p = j
    · rw [if_pos (by omega), if_pos (by omega), hpj]; exact ⟨rfl, rfl⟩
    · rw [if_neg (by omega), if_neg (by omega)]; exact h5 p (by omega)
  · rw [e10, e12, if_neg (by omega), if_neg (by omega)]; exact h6 x hx
theorem dpI_L {ρ w : gST} {g c q : Nat} : ∀ (m i : Nat) (a : gST), i + m ≤ 12 → dpI ρ w g c q i a → dpI ρ w g c q (i + m) (gLoop (gDrP ρ g c q) i m a)
  | 0, _, _, _, h => h
  | m + 1, i, a, h12, h => by
    rw [gLoop_f, show i + (m + 1) = (i + 1) + m by omega]
    exact dpI_L m (i + 1) _ (by omega) (dpI_s (by omega) h)
/-- the contours of a glyph drawn, one by one -/
def dzI (ρ : gST) (g : Nat) (N : Nat → Nat) (m : Nat) (a : Nat × gST) : Prop :=
  a.1 = pOf N m ∧ (∀ k, k ≠ 6 → k ≠ 8 → k ≠ 10 → k ≠ 12 → a.2.1 k = ρ.1 k) ∧ a.2.2 = ρ.2 ∧ (∀ i, a.2.1 6 i = if i = g then nI m else ρ.1 6 i) ∧
  (∀ c, c < m → a.2.1 8 (g * 3 + c) = nI (N c)) ∧ (∀ x, ¬ (g * 3 ≤ x ∧ x < g * 3 + 3) → a.2.1 8 x = ρ.1 8 x) ∧
  (∀ x, (∃ c, c < m ∧ x = g * 3 + c) ∨ a.2.1 8 x = ρ.1 8 x) ∧
  (∀ c p, c < m → p < N c → a.2.1 10 ((g * 3 + c) * 12 + p) = ρ.1 358 (pOf N c + p) ∧ a.2.1 12 ((g * 3 + c) * 12 + p) = ρ.1 360 (pOf N c + p)) ∧
  (∀ x, ¬ (g * 36 ≤ x ∧ x < g * 36 + 36) → a.2.1 10 x = ρ.1 10 x ∧ a.2.1 12 x = ρ.1 12 x)
theorem dzI_s {ρ : gST} {g c : Nat} {N : Nat → Nat} {a : Nat × gST} (hc : c < 3) (hN : nA (ρ.1 362 c) = N c) (h12 : ∀ d, d ≤ c → N d ≤ 12) (h : dzI ρ g N c a) : dzI ρ g N (c + 1) (gDrC ρ g c a) := by
  obtain ⟨h1, h2, h3, h4, h5, h6, h7, h8, h9⟩ := h
  have h12c := h12 c (Nat.le_refl _)
  obtain ⟨w, hw⟩ : ∃ w, w = gPut a.2 6 g (nI (c + 1)) := ⟨_, rfl⟩
  obtain ⟨r, hr⟩ : ∃ r, r = gLoop (gDrP ρ g c (pOf N c)) 0 (N c) (gPut w 8 (g * 3 + c) 0) := ⟨_, rfl⟩
  have e : gDrC ρ g c a = (pOf N c + N c, r) := by unfold gDrC; rw [hN, h1, hr, hw]
  obtain ⟨d1, d2, d3, d4, d5, d6⟩ : dpI ρ w g c (pOf N c) (N c) r := by
    rw [hr]
    have := dpI_L (ρ := ρ) (w := w) (g := g) (c := c) (q := pOf N c) (N c) 0 (gPut w 8 (g * 3 + c) 0) (by omega) ⟨fun k q1 _ _ => gPut_ne _ _ _ q1, rfl, by rw [gPut_at, if_pos ⟨rfl, rfl⟩]; rfl, fun x hx => by rw [gPut_at, if_neg (fun h => hx h.2)], fun p hp => absurd hp (Nat.not_lt_zero _), fun x _ => ⟨by rw [gPut_ne _ _ _ (by decide)], by rw [gPut_ne _ _ _ (by decide)]⟩⟩
    rw [Nat.zero_add] at this
    exact this
  have wo : ∀ k, k ≠ 6 → w.1 k = a.2.1 k := fun k hk => by rw [hw]; exact gPut_ne _ _ _ hk
  rw [e]
  refine ⟨rfl, fun k q1 q2 q3 q4 => ?_, ?_, fun i => ?_, fun d hd => ?_, fun x hx => ?_, fun x => ?_, fun d p hd hp => ?_, fun x hx => ?_⟩
  · show r.1 k = _
    rw [d1 k q2 q3 q4, wo k q1]; exact h2 k q1 q2 q3 q4
  · show r.2 = _
    rw [d2, hw]; exact h3
  · show r.1 6 i = _
    rw [d1 6 (by decide) (by decide) (by decide), hw, gPut_at]
    by_cases hi : i = g
    · rw [if_pos ⟨rfl, hi⟩, if_pos hi]
    · rw [if_neg (fun h => hi h.2), if_neg hi, h4, if_neg hi]
  · show r.1 8 _ = _
    by_cases hdc : d = c
    · rw [hdc, d3]
    · rw [d4 _ (by omega), wo 8 (by decide)]; exact h5 d (by omega)
  · show r.1 8 _ = _
    rw [d4 _ (by omega), wo 8 (by decide)]; exact h6 x hx
  · show _ ∨ r.1 8 _ = _
    by_cases hxc : x = g * 3 + c
    · exact Or.inl ⟨c, by omega, hxc⟩
    · rw [d4 _ hxc, wo 8 (by decide)]
      rcases h7 x with ⟨d, q1, q2⟩ | q
      · exact Or.inl ⟨d, by omega, q2⟩
      · exact Or.inr q
  · show r.1 10 _ = _ ∧ r.1 12 _ = _
    by_cases hdc : d = c
    · subst hdc; exact d5 p hp
    · have := h12 d (by omega)
      have hx := d6 ((g * 3 + d) * 12 + p) (by omega)
      rw [hx.1, hx.2, wo 10 (by decide), wo 12 (by decide)]; exact h8 d p (by omega) hp
  · show r.1 10 _ = _ ∧ r.1 12 _ = _
    have hx2 := d6 x (by omega)
    rw [hx2.1, hx2.2, wo 10 (by decide), wo 12 (by decide)]; exact h9 x hx
theorem dzI_L {ρ : gST} {g : Nat} {N : Nat → Nat} : ∀ (m : Nat) (_ : m ≤ 3) (_ : ∀ d, d < m → nA (ρ.1 362 d) = N d ∧ N d ≤ 12), dzI ρ g N m (gLoop (gDrC ρ g) 0 m ((0 : Nat), gPut ρ 6 g 0))
  | 0, _, _ => ⟨rfl, fun k q1 _ _ _ => gPut_ne _ _ _ q1, rfl, fun i => by
      rw [gLoop_zero]
      show (gPut ρ 6 g 0).1 6 i = _
      rw [gPut_s, uN]; rfl, fun c hc => absurd hc (Nat.not_lt_zero _), fun x _ => by
      rw [gLoop_zero]
      show (gPut ρ 6 g 0).1 8 x = _
      rw [gPut_ne _ _ _ (by decide)], fun x => Or.inr (by
      rw [gLoop_zero]
      show (gPut ρ 6 g 0).1 8 x = _
      rw [gPut_ne _ _ _ (by decide)]), fun c p hc => absurd hc (Nat.not_lt_zero _), fun x _ => by
      rw [gLoop_zero]
      show (gPut ρ 6 g 0).1 10 x = _ ∧ (gPut ρ 6 g 0).1 12 x = _
      rw [gPut_ne _ _ _ (by decide), gPut_ne _ _ _ (by decide)]; exact ⟨rfl, rfl⟩⟩
  | m + 1, h, h2 => by
    rw [gLoop_last]
    exact dzI_s (by omega) (h2 m (by omega)).1 (fun d hd => (h2 d (by omega)).2) (dzI_L m (by omega) (fun d hd => h2 d (by omega)))
