/-- a glyph's text read and refused: only buffer and fault change -/
theorem gAll.rdg {τ σ σ' : gST} (h : gAll τ σ) (s1 : ∀ k, k < 388 → k ≠ 376 → σ'.1 k = σ.1 k) (s2 : ∀ j, j = 2 ∨ j = 4 ∨ j = 9 → σ'.1 376 j = σ.1 376 j) (s7 : σ'.1 376 7 = 0) (s21 : σ'.1 376 21 = (gFr τ).1) : gAll (gRd τ) σ' := by
  have e1 : (gRd τ).1 353 1 = 0 := by unfold gRd; rw [gPut_at, if_pos ⟨rfl, rfl⟩]
  have et : gTl (gRd τ) = 0 := by unfold gTl; rw [e1]; rfl
  have e363 : (gRd τ).1 363 = τ.1 363 := gRd_k τ (by decide)
  have e365 : (gRd τ).1 365 = τ.1 365 := gRd_k τ (by decide)
  have ep : gPl_ (gRd τ) = gPl_ τ := by unfold gPl_; rw [e363]
  refine h.low (fun k q1 q2 => gRd_k τ (by omega)) (gRd_0 τ (by decide)) ?_ ?_ ?_ ?_ (s1 377 (by decide) (by decide)) (s1 378 (by decide) (by decide)) (s1 379 (by decide) (by decide)) (s2 2 (by decide)) (s2 4 (by decide)) ⟨⟨?_, ?_⟩, ⟨?_, ?_⟩, ?_⟩
  · unfold gTW; rw [e1]; decide
  · unfold gPW; rw [e363, e365]; exact h.cb.2.2.1
  · rw [et]; exact fun i hi => absurd hi (Nat.not_lt_zero _)
  · rw [ep, e365]; exact h.cb.2.2.2.2
  · rw [s7, e1]
  · rw [et]; exact fun i hi => absurd hi (Nat.not_lt_zero _)
  · rw [s2 9 (by decide), e363]; exact h.br.2.1.1
  · rw [ep, e365, s1 381 (by decide) (by decide)]; exact h.br.2.1.2
  · rw [s21, gRd_7]
