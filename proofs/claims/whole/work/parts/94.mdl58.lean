set_option maxHeartbeats 4000000 in
set_option maxRecDepth 100000 in
theorem ok_readGlyph1 {κ : gK} {σ τ : gST} (h : gAll τ σ) (hf : ¬ (gFr τ).1 = -1) : gOK κ mX11_readGlyph [.ref (κ.2.1 + 376)] σ (rI (aI (fRead τ).1)) kAS (fRead τ) := by
  have hC := h.ci
  have hW := hC.dw
  have hT := h.cb.2.1
  have h60 := hT.tl60
  have h7 : σ.1 376 7 = nI (gTl τ) := h.br.1.1.trans hT.tl
  have hTt : ∀ i, i < gTl τ → σ.1 380 i = τ.1 355 i := h.br.1.2
  obtain ⟨r1, r2⟩ := cGr (τ := τ) (T := σ.1 380) (rd := σ.1 388) (rm := σ.1 389) h60 hTt
  rw [show fRead τ = (xIAE, gRd τ) from if_pos hf]
  by_cases hc : 33 ≤ (hr (σ.1 380) (gTl τ) 0).toInt ∧ (hr (σ.1 380) (gTl τ) 0).toInt ≤ 126
  · obtain ⟨r3, r4⟩ := r2 hc
    have hn : 1 ≤ gTl τ := by
      by_cases hn : 1 ≤ gTl τ
      · exact hn
      · unfold hr at hc
        rw [if_neg (by omega)] at hc
        exact absurd hc.1 (by decide)
    obtain ⟨G, hG⟩ : ∃ G, (gLp (σ.1 380) (gTl τ) 61 0 1 false (σ.1 388) (σ.1 389)) = G := ⟨_, rfl⟩
    rw [hG] at r3 r4
    cases hw : G.2.2.1 with
    | false => exact absurd (r4 hw).choose_spec.1 hf
    | true =>
      refine ⟨(gPut (gPut (gPut (wr σ G.2.1 true G.2.2.2.1 G.1 G.2.2.2.2.1 G.2.2.2.2.2) 376 7 0) 376 21 (nI G.2.1)) 376 5 1), ?_, ?_, ⟨fun k hk => ?_, rfl⟩, ?_⟩
      · refine ct_of (by decide +kernel) rfl (Nat.le_of_ble_eq_true rfl) rfl ?_
        refine lpX11_rsy (n := gTl τ) h7 h60 hc ?_
        refine lpX11_rg (n := gTl τ) h7 h60 61 0 1 false (σ.1 388) (σ.1 389) (by omega) hn (by omega) ?_
        rw [hG, hw]
        exact lpX11_rw (w := true)
      · rw [gPut_at, if_pos ⟨rfl, rfl⟩]; exact xc_AS_A.symm
      · rw [gPut_ne _ _ _ (by omega), gPut_ne _ _ _ (by omega), gPut_ne _ _ _ (by omega)]
        unfold wr
        dsimp only
        rw [if_neg (by omega), if_neg (by omega), if_neg (by omega)]
      · refine h.rdg (fun k q1 q2 => ?_) (fun j hj => ?_) rfl (r3 hw).symm
        · rw [gPut_ne _ _ _ q2, gPut_ne _ _ _ q2, gPut_ne _ _ _ q2]
          unfold wr
          dsimp only
          rw [if_neg q2, if_neg (by omega), if_neg (by omega)]
        · rcases hj with hj | hj | hj <;> subst hj <;> rfl
  · refine ⟨gPut (gPut (gPut (wr σ 0 true false 0 (σ.1 388) (σ.1 389)) 376 7 0) 376 21 (nI 0)) 376 5 1, ?_, ?_, ⟨fun k hk => ?_, rfl⟩, ?_⟩
    · refine ct_of (by decide +kernel) rfl (Nat.le_of_ble_eq_true rfl) rfl ?_
      refine lpX11_rsn (n := gTl τ) h7 h60 hc ?_
      refine go_aload_n (q := 63) (gDec iX11_readGlyph_ok 34 rfl) rfl rfl rfl ?_
      refine go_geti (q := 66) fX11_247 (gDec iX11_readGlyph_ok 35 rfl) rfl (by decide) rfl ?_
      refine go_top (v' := 1) (rfl) ?_
      refine go_if_ne (t := 94) (q := 69) (gDec iX11_readGlyph_ok 36 rfl) (by decide) rfl (fun c66 => ?_) (fun c66 => False.elim (absurd c66 (by decide)))
      refine go_sub (L' := [(0, .ref (κ.2.1 + 376)), (1, .int (hr (σ.1 380) (gTl τ) 0))]) ⟨rfl, rfl, trivial⟩ ?_
      exact lpX11_rw (w := true)
    · rw [gPut_at, if_pos ⟨rfl, rfl⟩]; exact xc_AS_A.symm
    · rw [gPut_ne _ _ _ (by omega), gPut_ne _ _ _ (by omega), gPut_ne _ _ _ (by omega)]
      unfold wr
      dsimp only
      rw [if_neg (by omega), if_neg (by omega), if_neg (by omega)]
    · refine h.rdg (fun k q1 q2 => ?_) (fun j hj => ?_) rfl (r1 hc).symm
      · rw [gPut_ne _ _ _ q2, gPut_ne _ _ _ q2, gPut_ne _ _ _ q2]
        unfold wr
        dsimp only
        rw [if_neg q2, if_neg (by omega), if_neg (by omega)]
      · rcases hj with hj | hj | hj <;> subst hj <;> rfl
