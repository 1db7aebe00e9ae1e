/-- the counts of points read are not negative -/
theorem gFr_R {τ : gST} (hT : gTW τ) (h : (gFr τ).1 = -1) : ∀ c, c < nA ((gRd τ).1 356 5) → 0 ≤ ((gRd τ).1 362 c).toInt := by
  have h60 := hT.tl60
  obtain ⟨r1, r2⟩ := cGr (τ := τ) (T := τ.1 355) (rd := fun _ => 0) (rm := fun _ => 0) h60 (fun _ _ => rfl)
  by_cases hc : 33 ≤ (hr (τ.1 355) (gTl τ) 0).toInt ∧ (hr (τ.1 355) (gTl τ) 0).toInt ≤ 126
  · obtain ⟨r3, r4⟩ := r2 hc
    have hle : ∀ (f K p : Nat) (b : Bool) (rd rm : Nat → Int32), p ≤ gTl τ → (gLp (τ.1 355) (gTl τ) f K p b rd rm).2.1 ≤ gTl τ := by
      intro f
      induction f with
      | zero => intro K p b rd rm h9; exact h9
      | succ f ih =>
        intro K p b rd rm h9
        obtain ⟨-, g2, -⟩ := rE_le (t := τ.1 355) (K := K) (b := b) (rd := rd) h9
        by_cases hx : K = 0 ∨ p < gTl τ
        · cases hw : rEw (τ.1 355) (gTl τ) K p b rd with
          | true => rw [gLp_w hx hw]; exact g2
          | false => rw [gLp_s hx hw]; exact ih _ _ _ _ _ g2
        · rw [gLp_e hx]; exact h9
    cases hw : (gLp (τ.1 355) (gTl τ) 61 0 1 false (fun _ => 0) (fun _ => 0)).2.2.1 with
    | true =>
      have hn : 1 ≤ gTl τ := by
        by_cases hn : 1 ≤ gTl τ
        · exact hn
        · unfold hr at hc
          rw [if_neg (by omega)] at hc
          exact absurd hc.1 (by decide)
      have h1 := hle 61 0 1 false (fun _ => 0) (fun _ => 0) hn
      have h2 := r3 hw
      rw [h] at h2
      exact absurd h2.symm (nI_n1 (by omega))
    | false =>
      obtain ⟨N', -, k1, k2, -, k3, k4, -⟩ := r4 hw
      intro c hcc
      rw [gRd_x τ (k := 356) (by decide), k2, nA_nI (by omega)] at hcc
      rw [gRd_x τ (k := 362) (by decide), k4 c hcc]
      have := pOf_1 (N := N') hcc
      rw [nI_toInt (by omega)]
      omega
  · have h2 := r1 hc
    rw [h] at h2
    exact absurd h2.symm (nI_n1 (by decide))
