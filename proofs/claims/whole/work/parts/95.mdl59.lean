set_option maxHeartbeats 4000000 in
set_option maxRecDepth 100000 in
theorem ok_readGlyph2 {κ : gK} {σ τ : gST} (h : gAll τ σ) (hf : (gFr τ).1 = -1) (hx : gFits (gRd τ) = 0 ∨ (gRk τ = -1 ∧ gNg τ = 24)) : gOK κ mX11_readGlyph [.ref (κ.2.1 + 376)] σ (rI (aI (fRead τ).1)) kAS (fRead τ) := by
  have hC := h.ci
  have hM := h.mr
  have hW := hC.dw
  have hT := h.cb.2.1
  have h60 := hT.tl60
  have h7 : σ.1 376 7 = nI (gTl τ) := h.br.1.1.trans hT.tl
  have hTt : ∀ i, i < gTl τ → σ.1 380 i = τ.1 355 i := h.br.1.2
  obtain ⟨r1, r2⟩ := cGr (τ := τ) (T := σ.1 380) (rd := σ.1 388) (rm := σ.1 389) h60 hTt
  rw [show fRead τ = (xISE, gRd τ) from (if_neg (fun h9 => h9 hf)).trans (if_pos hx)]
  have hc : 33 ≤ (hr (σ.1 380) (gTl τ) 0).toInt ∧ (hr (σ.1 380) (gTl τ) 0).toInt ≤ 126 := Classical.not_not.mp (fun h9 => by
    have := r1 h9
    rw [hf] at this
    exact absurd this.symm (nI_n1 (by decide)))
  obtain ⟨r3, r4⟩ := r2 hc
  have hn : 1 ≤ gTl τ := by
    by_cases hn : 1 ≤ gTl τ
    · exact hn
    · unfold hr at hc
      rw [if_neg (by omega)] at hc
      exact absurd hc.1 (by decide)
  have hle : ∀ (f K p : Nat) (b : Bool) (rd rm : Nat → Int32), p ≤ gTl τ → (gLp (σ.1 380) (gTl τ) f K p b rd rm).2.1 ≤ gTl τ := by
    intro f
    induction f with
    | zero => intro K p b rd rm h9; exact h9
    | succ f ih =>
      intro K p b rd rm h9
      obtain ⟨-, g2, -⟩ := rE_le (t := σ.1 380) (K := K) (b := b) (rd := rd) h9
      by_cases hx : K = 0 ∨ p < gTl τ
      · cases hw : rEw (σ.1 380) (gTl τ) K p b rd with
        | true => rw [gLp_w hx hw]; exact g2
        | false => rw [gLp_s hx hw]; exact ih _ _ _ _ _ g2
      · rw [gLp_e hx]; exact h9
  have hp9 := hle 61 0 1 false (σ.1 388) (σ.1 389) hn
  obtain ⟨G, hG⟩ : ∃ G, (gLp (σ.1 380) (gTl τ) 61 0 1 false (σ.1 388) (σ.1 389)) = G := ⟨_, rfl⟩
  rw [hG] at r3 r4 hp9
  cases hw : G.2.2.1 with
  | true =>
    have := r3 hw
    rw [hf] at this
    exact absurd this.symm (nI_n1 (by omega))
  | false =>
    obtain ⟨N', -, k0, k1, k2, k3, k4, k5, k6, k7, k8⟩ := r4 hw
    have hfit : gFits (gRd τ) = 0 ↔ G.2.2.2.1 = true := gFits_i (K := G.1) (N := N') (rd := G.2.2.2.2.1) k0 (by rw [gRd_x τ (by decide)]; exact k1) (by rw [gRd_x τ (by decide)]; exact k2) k3 (by rw [gRd_x τ (by decide)]; exact k4) k7
      (by unfold pDC; rw [gRd_x τ (k := 358) (by decide), gRd_x τ (k := 360) (by decide)]; exact k5)
    have hkk : gRk τ = gFind (τ.1 4) (hr (σ.1 380) (gTl τ) 0) 0 (gNg τ) := by unfold gRk; rw [gRd_x τ (by decide), k8]
    refine ⟨(gPut (gPut (gPut (wr σ G.2.1 false G.2.2.2.1 G.1 G.2.2.2.2.1 G.2.2.2.2.2) 376 7 0) 376 21 (-1)) 376 5 2), ?_, ?_, ⟨fun k hk => ?_, rfl⟩, ?_⟩
    · refine ct_of (by decide +kernel) rfl (Nat.le_of_ble_eq_true rfl) rfl ?_
      refine lpX11_rsy (n := gTl τ) h7 h60 hc ?_
      refine lpX11_rg (n := gTl τ) h7 h60 61 0 1 false (σ.1 388) (σ.1 389) (by omega) hn (by omega) ?_
      rw [hG, hw]
      exact lpX11_rt (w := false) hW hM (hx.imp hfit.mp (fun h9 => ⟨hkk.symm.trans h9.1, h9.2⟩))
    · rw [gPut_at, if_pos ⟨rfl, rfl⟩]; exact xc_AS_S.symm
    · rw [gPut_ne _ _ _ (by omega), gPut_ne _ _ _ (by omega), gPut_ne _ _ _ (by omega)]
      unfold wr
      dsimp only
      rw [if_neg (by omega), if_neg (by omega), if_neg (by omega)]
    · refine h.rdg (fun k q1 q2 => ?_) (fun j hj => ?_) rfl hf.symm
      · rw [gPut_ne _ _ _ q2, gPut_ne _ _ _ q2, gPut_ne _ _ _ q2]
        unfold wr
        dsimp only
        rw [if_neg q2, if_neg (by omega), if_neg (by omega)]
      · rcases hj with hj | hj | hj <;> subst hj <;> rfl
