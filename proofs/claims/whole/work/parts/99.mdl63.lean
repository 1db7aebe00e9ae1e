theorem gRw_o (τ : gST) {k : Nat} (h2 : k ≠ 2) (h4 : k ≠ 4) : (gRw τ).1 k = (gRem (gRd τ)).1 k := by
  unfold gRw
  split
  · rw [gPut_ne _ _ _ h2, gPut_ne _ _ _ h4]
  · rfl
theorem rz_end {τ V U : gST} {K : Nat} {N : Nat → Nat} (hH : gHW τ) (hD : gAll (gRd τ) V) (h50 : V.1 376 5 = 0) (hρ : gCI (gRw τ) ∧ gMR (gRw τ) (U.1 377)) (hU : ∀ k, k ≠ 377 → U.1 k = (gChg V (nA ((gRd τ).1 71 2))).1 k) (hU2 : U.2 = V.2)
    (hg : gRg τ < gNg (gRw τ)) (hng : gNg (gRd τ) ≤ gNg (gRw τ)) (hK3 : K ≤ 3) (hN : ∀ c, c < K → 3 ≤ N c ∧ N c ≤ 12) (e5 : (gRd τ).1 356 5 = nI K) (e362 : ∀ c, c < K → (gRd τ).1 362 c = nI (N c))
    (hR : ∀ c p, c < K → p < N c → (-200 ≤ ((gRd τ).1 358 (pOf N c + p)).toInt ∧ ((gRd τ).1 358 (pOf N c + p)).toInt ≤ 1200) ∧ (-200 ≤ ((gRd τ).1 360 (pOf N c + p)).toInt ∧ ((gRd τ).1 360 (pOf N c + p)).toInt ≤ 1200))
    (hrm : ∀ c, c < K → V.1 389 c = nI (N c)) (hrd : ∀ c p, c < K → p < N c → V.1 388 (2 * (12 * c + p)) = (gRd τ).1 358 (pOf N c + p) ∧ V.1 388 (2 * (12 * c + p) + 1) = (gRd τ).1 360 (pOf N c + p)) :
    (rzU U (gRg τ) K).1 376 5 = 0 ∧ gNO V (rzU U (gRg τ) K) ∧ gAll (gRz τ) (rzU U (gRg τ) K) := by
  have hi : ∀ k, 353 ≤ k → (gRw τ).1 k = (gRd τ).1 k := fun k hk => gRw_hi hH hk
  have hz := dzI_L (ρ := gRw τ) (g := gRg τ) (N := N) K hK3 (fun d hd => ⟨by rw [hi 362 (by decide), e362 d hd]; exact nA_nI (by have := hN d hd; omega), (hN d hd).2⟩)
  have ez : gRz τ = (gLoop (gDrC (gRw τ) (gRg τ)) 0 K ((0 : Nat), gPut (gRw τ) 6 (gRg τ) 0)).2 := by unfold gRz; rw [e5, nA_nI (by omega)]
  obtain ⟨v1, v2, v3, v4⟩ := rzU_v (U := U) (g := gRg τ) hK3
  have u389 : U.1 389 = V.1 389 := (hU 389 (by decide)).trans (gChg_o _ _ (by decide) (by decide))
  have u388 : U.1 388 = V.1 388 := (hU 388 (by decide)).trans (gChg_o _ _ (by decide) (by decide))
  have m := mt_read (s' := (rzU U (gRg τ) K).1 377) hρ.1 hρ.2 hg hK3 hN (fun c p hc hp => by rw [hi 358 (by decide), hi 360 (by decide)]; exact hR c p hc hp) hz v1 v2 (fun c hc => by rw [v3 c hc, u389]; exact hrm c hc)
    (fun c p hc hp => by
      have h12 := (hN c hc).2
      obtain ⟨q1, q2⟩ := v4 c p hc (by omega)
      rw [q1, q2, u388, hi 358 (by decide), hi 360 (by decide)]
      exact hrd c p hc hp)
  have hzo := hz.2.1
  rw [← ez] at m hzo
  refine hD.chg m.1 m.2 (fun k hk => ?_) ?_ (fun k hk => ?_) hU2
  · rw [hzo k (by omega) (by omega) (by omega) (by omega)]
    exact gRw_o τ (by omega) (by omega)
  · have : gNg (gRz τ) = gNg (gRw τ) := by unfold gNg; rw [hzo 2 (by decide) (by decide) (by decide) (by decide)]
    rw [this]; exact hng
  · rw [rzU_o _ _ _ hk, hU k hk, show gPut V 376 5 0 = V from (by rw [← h50]; exact gPut_self V 376 5)]

set_option maxHeartbeats 4000000 in
set_option maxRecDepth 100000 in
theorem ok_readGlyph3 {κ : gK} {σ τ : gST} (h : gAll τ σ) (hf : (gFr τ).1 = -1) (hx : ¬ gFits (gRd τ) = 0) (hy : ¬ (gRk τ = -1 ∧ gNg τ = 24)) : gOK κ mX11_readGlyph [.ref (κ.2.1 + 376)] σ (rI (aI (fRead τ).1)) kAS (fRead τ) := by
  have hC := h.ci
  have hM := h.mr
  have hW := hC.dw
  have h24 := hW.ng24
  have hT := h.cb.2.1
  have h60 := hT.tl60
  have h7 : σ.1 376 7 = nI (gTl τ) := h.br.1.1.trans hT.tl
  have hTt : ∀ i, i < gTl τ → σ.1 380 i = τ.1 355 i := h.br.1.2
  obtain ⟨r1, r2⟩ := cGr (τ := τ) (T := σ.1 380) (rd := σ.1 388) (rm := σ.1 389) h60 hTt
  rw [show fRead τ = (rI (nI (gRg τ)), gRz τ) from (if_neg (fun h9 => h9 hf)).trans (if_neg (fun h9 => h9.elim hx hy))]
  have hc : 33 ≤ (hr (σ.1 380) (gTl τ) 0).toInt ∧ (hr (σ.1 380) (gTl τ) 0).toInt ≤ 126 := Classical.not_not.mp (fun h9 => by
    have := r1 h9
    rw [hf] at this
    exact absurd this.symm (nI_n1 (by decide)))
  obtain ⟨r3, r4⟩ := r2 hc
  have hn : 1 ≤ gTl τ := by
    by_cases hn : 1 ≤ gTl τ
    · exact hn
    · unfold hr at hc
      rw [if_neg (by omega)] at hc
      exact absurd hc.1 (by decide)
  have hle : ∀ (f K p : Nat) (b : Bool) (rd rm : Nat → Int32), p ≤ gTl τ → (gLp (σ.1 380) (gTl τ) f K p b rd rm).2.1 ≤ gTl τ := by
    intro f
    induction f with
    | zero => intro K p b rd rm h9; exact h9
    | succ f ih =>
      intro K p b rd rm h9
      obtain ⟨-, g2, -⟩ := rE_le (t := σ.1 380) (K := K) (b := b) (rd := rd) h9
      by_cases hx : K = 0 ∨ p < gTl τ
      · cases hw : rEw (σ.1 380) (gTl τ) K p b rd with
        | true => rw [gLp_w hx hw]; exact g2
        | false => rw [gLp_s hx hw]; exact ih _ _ _ _ _ g2
      · rw [gLp_e hx]; exact h9
  have hp9 := hle 61 0 1 false (σ.1 388) (σ.1 389) hn
  have h3p := gLp_3 (t := σ.1 380) (n := gTl τ) 61 0 1 false (σ.1 388) (σ.1 389) (fun c hc => absurd hc (Nat.not_lt_zero _))
  obtain ⟨G, hG⟩ : ∃ G, (gLp (σ.1 380) (gTl τ) 61 0 1 false (σ.1 388) (σ.1 389)) = G := ⟨_, rfl⟩
  rw [hG] at r3 r4 hp9 h3p
  cases hw : G.2.2.1 with
  | true =>
    have := r3 hw
    rw [hf] at this
    exact absurd this.symm (nI_n1 (by omega))
  | false =>
    obtain ⟨N', -, k0, k1, k2, k3, k4, k5, k6, k7, k8⟩ := r4 hw
    have d5 : (gRd τ).1 356 5 = nI G.1 := by rw [gRd_x τ (by decide)]; exact k1
    have d362 : ∀ c, c < G.1 → (gRd τ).1 362 c = nI (N' c) := by rw [gRd_x τ (by decide)]; exact k4
    have dD : pDC (gRd τ) G.1 N' G.2.2.2.1 G.2.2.2.2.1 := by unfold pDC; rw [gRd_x τ (k := 358) (by decide), gRd_x τ (k := 360) (by decide)]; exact k5
    have hfit : gFits (gRd τ) = 0 ↔ G.2.2.2.1 = true := gFits_i (K := G.1) (N := N') (rd := G.2.2.2.2.1) k0 d5 (by rw [gRd_x τ (by decide)]; exact k2) k3 d362 k7 dD
    have hkk : gRk τ = gFind (τ.1 4) (hr (σ.1 380) (gTl τ) 0) 0 (gNg τ) := by unfold gRk; rw [gRd_x τ (by decide), k8]
    have d4 : (gRd τ).1 356 4 = hr (σ.1 380) (gTl τ) 0 := by rw [gRd_x τ (by decide)]; exact k8
    cases hb : G.2.2.2.1 with
    | true => exact absurd (hfit.mpr hb) hx
    | false =>
    have hgood : ∀ c p, c < G.1 → p < N' c → ¬ bad2 ((gRd τ).1 358 (pOf N' c + p)) ((gRd τ).1 360 (pOf N' c + p)) c p := fun c p q1 q2 q3 => by
      have := dD.2.mpr ⟨c, p, q1, q2, q3⟩
      rw [hb] at this; cases this
    have hK3 : G.1 ≤ 3 := Classical.byContradiction (fun h9 => hgood 3 0 (by omega) (k7 3 (by omega)) (Or.inr (Or.inr (Or.inr (Nat.le_refl _)))))
    have hN12 : ∀ c, c < G.1 → N' c ≤ 12 := fun c q1 => Classical.byContradiction (fun h9 => hgood c 12 q1 (by omega) (Or.inr (Or.inr (Or.inl (Nat.le_refl _)))))
    have hrm : ∀ c, c < G.1 → G.2.2.2.2.2 c = nI (N' c) := fun c q1 => (k6 c q1 (by omega)).trans (rM_12 (hN12 c q1))
    have hN3 : ∀ c, c < G.1 → 3 ≤ N' c ∧ N' c ≤ 12 := fun c q1 => by
      have h1 := h3p hw c q1 (by omega)
      have h2 := hN12 c q1
      rw [hrm c q1, nI_toInt (by omega)] at h1
      omega
    have hR : ∀ c p, c < G.1 → p < N' c → (-200 ≤ ((gRd τ).1 358 (pOf N' c + p)).toInt ∧ ((gRd τ).1 358 (pOf N' c + p)).toInt ≤ 1200) ∧ (-200 ≤ ((gRd τ).1 360 (pOf N' c + p)).toInt ∧ ((gRd τ).1 360 (pOf N' c + p)).toInt ≤ 1200) := fun c p q1 q2 => by
      have := hgood c p q1 q2
      exact ⟨Classical.not_not.mp (fun h8 => this (Or.inl h8)), Classical.not_not.mp (fun h8 => this (Or.inr (Or.inl h8)))⟩
    obtain ⟨V, hV⟩ : ∃ V, V = (gPut (gPut (gPut (wr σ G.2.1 false false G.1 G.2.2.2.2.1 G.2.2.2.2.2) 376 7 0) 376 21 (-1)) 376 5 0) := ⟨_, rfl⟩
    have V50 : V.1 376 5 = 0 := by rw [hV, gPut_at, if_pos ⟨rfl, rfl⟩]
    have VO : ∀ k, k ≠ 376 → k ≠ 388 → k ≠ 389 → V.1 k = σ.1 k := fun k q1 q2 q3 => by
      rw [hV, gPut_ne _ _ _ q1, gPut_ne _ _ _ q1, gPut_ne _ _ _ q1]
      unfold wr
      dsimp only
      rw [if_neg q1, if_neg q2, if_neg q3]
    have V24 : V.1 376 24 = nI G.1 := by rw [hV]; rfl
    have V388 : V.1 388 = G.2.2.2.2.1 := by rw [hV]; rfl
    have V389 : V.1 389 = G.2.2.2.2.2 := by rw [hV]; rfl
    have V2 : V.2 = σ.2 := by rw [hV]; rfl
    have hD : gAll (gRd τ) V := by
      refine h.rdg (fun k q1 q2 => VO k q2 (by omega) (by omega)) (fun j hj => ?_) (by rw [hV]; rfl) (by rw [hV]; exact hf.symm)
      rw [hV]
      rcases hj with hj | hj | hj <;> subst hj <;> rfl
    have V377 : V.1 377 = σ.1 377 := VO 377 (by decide) (by decide) (by decide)
    have eng : gNg (gRd τ) = gNg τ := by unfold gNg; rw [gRd_k τ (by decide)]
    have c1 := gRem_ci hD.ci
    have c2 := gRem_mr hD.ci hD.mr
    obtain ⟨n, hnn⟩ : ∃ n, n = nA ((gRd τ).1 71 2) := ⟨_, rfl⟩
    have hn4 : V.1 376 4 = nI n := by rw [hnn]; exact hD.hr.1
    have hn8 : n ≤ 8 := by rw [hnn]; exact hD.n8
    have hch : (gChg V n).1 377 = V.1 377 := gChg_o V n (by decide) (by decide)
    have start : ∀ (σ' : gST) (g : Nat), (gAll (gRz τ) σ' ∧ σ'.1 376 5 = 0 ∧ gNO V σ') → gRg τ = g → Go κ mX11_readGlyph (gRm 9 0) (gZm κ (.inl (some (.int (nI g)))) σ' 0) 94 [(0, .ref (κ.2.1 + 376)), (1, .int (hr (σ.1 380) (gTl τ) 0))] [] (wr σ G.2.1 false false G.1 G.2.2.2.2.1 G.2.2.2.2.2) 0 → gOK κ mX11_readGlyph [.ref (κ.2.1 + 376)] σ (rI (aI (rI (nI (gRg τ))))) kAS (rI (nI (gRg τ)), gRz τ) := by
      intro σ' g q0 q1 q2
      refine ⟨σ', ?_, q0.2.1, ⟨fun k hk => (q0.2.2.1 k hk).trans (VO k (by omega) (by omega) (by omega)), q0.2.2.2.trans V2⟩, q0.1⟩
      refine ct_of (by decide +kernel) rfl (Nat.le_of_ble_eq_true rfl) rfl ?_
      refine lpX11_rsy (n := gTl τ) h7 h60 hc ?_
      refine lpX11_rg (n := gTl τ) h7 h60 61 0 1 false (σ.1 388) (σ.1 389) (by omega) hn (by omega) ?_
      rw [hG, hw, hb, q1]
      exact q2
    by_cases h3 : gRk τ = -1
    · have h4 : gNg τ < 24 := by
        have : ¬ gNg τ = 24 := fun h9 => hy ⟨h3, h9⟩
        omega
      have eg : gRg τ = gNg τ := if_pos h3
      have ew : gRw τ = gPut (gPut (gRem (gRd τ)) 4 (gNg τ) ((gRd τ).1 356 4)) 2 5 (nI (gNg τ + 1)) := if_pos h3
      have mn := mt_new (ρ := gRem (gRd τ)) (s := (gChg V n).1 377) (c := (gRd τ).1 356 4) (n := gNg τ) c1 (by rw [hch]; exact c2) ((gRem_ng _).trans eng).symm h4 (by rw [d4]; exact hc) (gNw_s (gChg V n) (gNg τ) ((gRd τ).1 356 4))
      rw [← ew] at mn
      have ewg : gNg (gRw τ) = gNg τ + 1 := by unfold gNg; rw [ew, gPut_at, if_pos ⟨rfl, rfl⟩]; exact nA_nI (by show nA (τ.1 2 5) + 1 < 2 ^ 31; have : nA (τ.1 2 5) = gNg τ := rfl; omega)
      obtain ⟨q1, q2, q3⟩ := rz_end (U := gNw (gChg V n) (gNg τ) ((gRd τ).1 356 4)) (N := N') (K := G.1) h.cb.1 hD V50 mn (fun k hk => by rw [gNw_o _ _ _ hk, hnn]) rfl (by omega) (by omega) hK3 hN3 d5 d362 hR (by rw [V389]; exact hrm) (by
        rw [V388]
        exact fun c p q1 q2 => dD.1 c p q1 q2 (by omega) (by have := hN12 c q1; omega))
      rw [eg] at q1 q2 q3
      refine start _ (gNg τ) ⟨q3, q1, q2⟩ eg ?_
      refine lpX11_ran hW hM (hkk.symm.trans h3) h4 ?_
      rw [← hV, d4]
      exact lpX11_rzn h4 hK3 V24 hn4 hn8 ((congrFun V377 0).trans (hM.ng hW))
    · obtain ⟨k, -, hk, hke, -⟩ := (gFind_ex (f := τ.1 4) (c := (gRd τ).1 356 4) (gNg τ) 0).resolve_left h3
      have hke2 : gRk τ = nI k := hke
      have eg : gRg τ = k := by unfold gRg; rw [if_neg h3, hke2]; exact nA_nI (by omega)
      have ew : gRw τ = gRem (gRd τ) := if_neg h3
      have ewg : gNg (gRw τ) = gNg τ := by rw [ew]; exact (gRem_ng _).trans eng
      obtain ⟨q1, q2, q3⟩ := rz_end (U := gChg V n) (N := N') (K := G.1) h.cb.1 hD V50 (by rw [ew, hch]; exact ⟨c1, c2⟩) (fun k hk => by rw [hnn]) rfl (by omega) (by omega) hK3 hN3 d5 d362 hR (by rw [V389]; exact hrm) (by
        rw [V388]
        exact fun c p q1 q2 => dD.1 c p q1 q2 (by omega) (by have := hN12 c q1; omega))
      rw [eg] at q1 q2 q3
      refine start _ k ⟨q3, q1, q2⟩ eg ?_
      refine lpX11_raf hW hM (hkk.symm.trans hke2) (by omega) ?_
      rw [← hV]
      exact lpX11_rzf (by omega) hK3 V24 hn4 hn8
theorem ok_readGlyph {κ : gK} {σ τ : gST} (h : gAll τ σ) : gOK κ mX11_readGlyph [.ref (κ.2.1 + 376)] σ (rI (aI (fRead τ).1)) kAS (fRead τ) := by
  by_cases hf : (gFr τ).1 = -1
  · by_cases hx : gFits (gRd τ) = 0
    · exact ok_readGlyph2 h hf (Or.inl hx)
    · by_cases hy : gRk τ = -1 ∧ gNg τ = 24
      · exact ok_readGlyph2 h hf (Or.inr hy)
      · exact ok_readGlyph3 h hf hx hy
  · exact ok_readGlyph1 h hf
