theorem gFi_c {t T : Nat → Int32} : ∀ (m i : Nat) (a : gST), (∀ j, i ≤ j → j < i + m → t j = T j) → gFi t i m a = gFi T i m a := by
  intro m
  induction m with
  | zero => intro i a _; rfl
  | succ m ih =>
    intro i a h
    have e : t i = T i := h i (Nat.le_refl _) (by omega)
    show (if (gAcc a (t i)).1 = 0 then _ else gFi t (i + 1) m _) = (if (gAcc a (T i)).1 = 0 then _ else gFi T (i + 1) m _)
    rw [e, ih (i + 1) _ (fun j q1 q2 => h j (by omega) (by omega))]
/-- the class's parser and the model's -/
theorem cGr {τ : gST} {T rd rm : Nat → Int32} (h60 : gTl τ ≤ 60) (hT : ∀ i, i < gTl τ → T i = τ.1 355 i) :
    (¬ (33 ≤ (hr T (gTl τ) 0).toInt ∧ (hr T (gTl τ) 0).toInt ≤ 126) → (gFr τ).1 = nI 0) ∧
    ((33 ≤ (hr T (gTl τ) 0).toInt ∧ (hr T (gTl τ) 0).toInt ≤ 126) → ((gLp T (gTl τ) 61 0 1 false rd rm).2.2.1 = true → (gFr τ).1 = nI (gLp T (gTl τ) 61 0 1 false rd rm).2.1) ∧
      ((gLp T (gTl τ) 61 0 1 false rd rm).2.2.1 = false → ∃ N', (gFr τ).1 = -1 ∧ (gLp T (gTl τ) 61 0 1 false rd rm).1 ≤ 60 ∧ (gFr τ).2.1 356 5 = nI (gLp T (gTl τ) 61 0 1 false rd rm).1 ∧ (gFr τ).2.1 356 6 = nI (pOf N' (gLp T (gTl τ) 61 0 1 false rd rm).1) ∧ pOf N' (gLp T (gTl τ) 61 0 1 false rd rm).1 ≤ 60 ∧
        (∀ c, c < (gLp T (gTl τ) 61 0 1 false rd rm).1 → (gFr τ).2.1 362 c = nI (N' c)) ∧ pDC (gFr τ).2 (gLp T (gTl τ) 61 0 1 false rd rm).1 N' (gLp T (gTl τ) 61 0 1 false rd rm).2.2.2.1 (gLp T (gTl τ) 61 0 1 false rd rm).2.2.2.2.1 ∧
        (∀ c, c < (gLp T (gTl τ) 61 0 1 false rd rm).1 → c < 3 → (gLp T (gTl τ) 61 0 1 false rd rm).2.2.2.2.2 c = rM (N' c)) ∧ (∀ c, c < (gLp T (gTl τ) 61 0 1 false rd rm).1 → 0 < N' c) ∧ (gFr τ).2.1 356 4 = hr T (gTl τ) 0)) := by
  have ef : gFr τ = pF T (gTl τ) 0 (gF0 τ) := gFi_c (gTl τ) 0 (gF0 τ) (fun j _ hj => (hT j (by omega)).symm)
  have e3 : (gF0 τ).1 356 3 = 0 := by unfold gF0; simp [gPut_at]
  have e5 : (gF0 τ).1 356 5 = 0 := by unfold gF0; simp [gPut_at]
  have e6 : (gF0 τ).1 356 6 = 0 := by unfold gF0; simp [gPut_at]
  rw [ef]
  have ea : ∀ c, gAcc (gF0 τ) c = (gWi c.toInt 33 126, gPut (gPut (gF0 τ) 356 4 c) 356 3 1) := fun c => (gAcc_0 (by rw [e3]; decide)).trans rfl
  constructor
  · intro h
    by_cases hn : 0 < gTl τ
    · rw [hr_i hn] at h
      rw [pF_s hn, ea, gWi_f h]
      rfl
    · rw [pF_e (by omega), e3]
      show (if (0 : Int32) = 5 then (-1 : Int32) else nI 0) = nI 0
      exact if_neg (by decide)
  · intro h
    have hn : 0 < gTl τ := by
      by_cases hn : 0 < gTl τ
      · exact hn
      · unfold hr at h
        rw [if_neg hn] at h
        exact absurd h.1 (by decide)
    have ehr : hr T (gTl τ) 0 = T 0 := hr_i hn
    rw [ehr] at h ⊢
    have es : pF T (gTl τ) 0 (gF0 τ) = pF T (gTl τ) 1 (gPut (gPut (gF0 τ) 356 4 (T 0)) 356 3 1) := by
      rw [pF_s hn, ea, gWi_t h]
      exact if_neg (show ¬ (1 : Int32) = 0 by decide)
    rw [es]
    obtain ⟨t1, t2⟩ := cGl (t := T) (n := gTl τ) h60 61 0 1 false rd rm (gPut (gPut (gF0 τ) 356 4 (T 0)) 356 3 1) (fun _ => 0) (by omega) hn (by omega) (Or.inl ⟨by rw [gPut_at, if_pos ⟨rfl, rfl⟩], rfl⟩)
      (by simp [gPut_at]; exact e5.trans rfl) (by simp [gPut_at]; exact e6.trans rfl) (Nat.zero_le _) (fun c hc => absurd hc (Nat.not_lt_zero _)) ⟨fun c p hc => absurd hc (Nat.not_lt_zero _), ⟨fun h9 => absurd h9 (by decide), fun ⟨c, p, hc, _⟩ => absurd hc (Nat.not_lt_zero _)⟩⟩ (fun c hc => absurd hc (Nat.not_lt_zero _)) (fun c hc => absurd hc (Nat.not_lt_zero _))
    refine ⟨t1, fun hh => ?_⟩
    obtain ⟨a2, N2, v1, v2, v3, v4, v5, v6, v7, v8, vz, v9⟩ := t2 hh
    refine ⟨N2, ?_, v2, ?_, ?_, v5, ?_, ?_, v8, vz, ?_⟩
    · rw [v1]
    · rw [v1]; exact v3
    · rw [v1]; exact v4
    · rw [v1]; exact v6
    · rw [v1]; exact v7
    · rw [v1]
      refine v9.trans ?_
      simp [gPut_at]
