theorem gFind_ex {f : Nat → Int32} {c : Int32} : ∀ (m i : Nat), gFind f c i m = -1 ∨ ∃ k, i ≤ k ∧ k < i + m ∧ gFind f c i m = nI k ∧ f k = c
  | 0, _ => Or.inl rfl
  | m + 1, i => by
    unfold gFind
    by_cases h : f i = c
    · rw [if_pos h]
      exact Or.inr ⟨i, Nat.le_refl _, by omega, rfl, h⟩
    · rw [if_neg h]
      rcases gFind_ex (f := f) (c := c) m (i + 1) with h1 | ⟨k, h1, h2, h3, h4⟩
      · exact Or.inl h1
      · exact Or.inr ⟨k, by omega, by omega, h3, h4⟩
def gFr (σ : gST) : Int32 × gST := gFi (σ.1 355) 0 (gTl σ) (gF0 σ)
def gRd (σ : gST) : gST := gPut (gPut (gFr σ).2 0 7 (gFr σ).1) 353 1 0
def gRk (σ : gST) : Int32 := gFind (σ.1 4) ((gRd σ).1 356 4) 0 (gNg σ)
def gRg (σ : gST) : Nat := if gRk σ = -1 then gNg σ else nA (gRk σ)
def gRw (σ : gST) : gST := if gRk σ = -1 then gPut (gPut (gRem (gRd σ)) 4 (gNg σ) ((gRd σ).1 356 4)) 2 5 (nI (gNg σ + 1)) else gRem (gRd σ)
def gRz (σ : gST) : gST := (gLoop (gDrC (gRw σ) (gRg σ)) 0 (nA ((gRd σ).1 356 5)) ((0 : Nat), gPut (gRw σ) 6 (gRg σ) 0)).2
def fRead (σ : gST) : gO × gST := if ¬ (gFr σ).1 = -1 then (xIAE, gRd σ)
  else if gFits (gRd σ) = 0 ∨ (gRk σ = -1 ∧ gNg σ = 24) then (xISE, gRd σ)
  else (rI (nI (gRg σ)), gRz σ)
theorem gFr_I (σ : gST) : gFI σ (gTl σ) (gFr σ).2 := by
  have h := gFi_I (t := σ.1 355) (gTl σ) 0 _ (gF0_I σ)
  rw [Nat.zero_add] at h
  exact h
theorem gRd_k (σ : gST) {k : Nat} (h : k ≠ 0 ∧ k ≠ 353 ∧ k ≠ 356 ∧ k ≠ 358 ∧ k ≠ 360 ∧ k ≠ 362) : (gRd σ).1 k = σ.1 k :=
  (gPut_ne _ _ _ h.2.1).trans ((gPut_ne _ _ _ h.1).trans ((gFr_I σ).1.1 k h.2.2.1 h.2.2.2.1 h.2.2.2.2.1 h.2.2.2.2.2))
theorem gRd_x (σ : gST) {k : Nat} (h : k ≠ 0 ∧ k ≠ 353) : (gRd σ).1 k = (gFr σ).2.1 k :=
  (gPut_ne _ _ _ h.2).trans (gPut_ne _ _ _ h.1)
theorem gRd_0 (σ : gST) {j : Nat} (h : j ≠ 7) : (gRd σ).1 0 j = σ.1 0 j := by
  unfold gRd
  rw [gPut_ne _ _ _ (by decide), gPut_at, if_neg (fun h9 => h h9.2)]
  exact congrFun ((gFr_I σ).1.1 0 (by decide) (by decide) (by decide) (by decide)) j
theorem gRd_7 (σ : gST) : (gRd σ).1 0 7 = (gFr σ).1 := by
  unfold gRd
  rw [gPut_ne _ _ _ (by decide), gPut_at, if_pos ⟨rfl, rfl⟩]
theorem gRd_2 (σ : gST) : (gRd σ).2 = σ.2 := (gFr_I σ).1.2
theorem gRd_dw {σ : gST} (h : gDW σ) : gDW (gRd σ) := by
  unfold gDW
  rw [gRd_k σ (k := 2) (by decide), gRd_k σ (k := 6) (by decide), gRd_k σ (k := 8) (by decide), gRd_k σ (k := 17) (by decide), gRd_k σ (k := 22) (by decide), gRd_k σ (k := 24) (by decide), gRd_k σ (k := 31) (by decide)]
  exact h
theorem gRd_hw {σ : gST} (h : gHW σ) : gHW (gRd σ) := by
  unfold gHW
  rw [gRd_k σ (k := 71) (by decide)]
  exact h
theorem gRem_hi {τ : gST} (hH : gHW τ) {k : Nat} (hk : 353 ≤ k) : (gRem τ).1 k = τ.1 k := by
  have h1 : nA (τ.1 71 1) ≤ 7 := nA_le hH.1.2
  exact (gPut_ne _ _ _ (by omega)).trans ((gPut_ne _ _ _ (by omega)).trans (funext (fun i => gDc_out (Or.inr (by omega)) i)))
theorem gRw_hi {σ : gST} (hH : gHW σ) {k : Nat} (hk : 353 ≤ k) : (gRw σ).1 k = (gRd σ).1 k := by
  unfold gRw
  split
  · exact (gPut_ne _ _ _ (by omega)).trans ((gPut_ne _ _ _ (by omega)).trans (gRem_hi (gRd_hw hH) hk))
  · exact gRem_hi (gRd_hw hH) hk
theorem gRd_5 (σ : gST) (hT : gTW σ) : (∃ p, p ≤ 60 ∧ (gRd σ).1 356 6 = nI p) ∧ ∃ k, k ≤ 60 ∧ (gRd σ).1 356 5 = nI k := by
  have h60 := hT.tl60
  obtain ⟨-, -, ⟨p, hp, hpe⟩, k, hk, hke⟩ := gFr_I σ
  exact ⟨⟨p, by omega, (congrFun (gRd_x σ (by decide)) 6).trans hpe⟩, k, by omega, (congrFun (gRd_x σ (by decide)) 5).trans hke⟩
theorem gFc_all {f : Nat → Int32} : ∀ (m i : Nat), gFc f i m = true → ∀ c, i ≤ c → c < i + m → (f c).toInt ≤ 12
  | 0, _, _, _, h1, h2 => by omega
  | m + 1, i, h, c, h1, h2 => by
    unfold gFc at h
    by_cases h3 : 12 < f i
    · rw [if_pos h3] at h; cases h
    · rw [if_neg h3] at h
      rcases Nat.eq_or_lt_of_le h1 with h4 | h4
      · subst h4
        have := Int32.le_iff_toInt_le.mp (Int32.not_lt.mp h3)
        exact this
      · exact gFc_all m (i + 1) h c (by omega) (by omega)
theorem gFits_3 {σ : gST} {K : Nat} (h : ¬ gFits σ = 0) (hk : σ.1 356 5 = nI K) (h60 : K ≤ 60) : K ≤ 3 ∧ ∀ c, c < K → (σ.1 362 c).toInt ≤ 12 := by
  have h1 : gFp (σ.1 358) (σ.1 360) 0 (nA (σ.1 356 6)) = true ∧ gFc (σ.1 362) 0 (nA (σ.1 356 5)) = true ∧ ¬ 3 < σ.1 356 5 := Classical.not_not.mp (fun h9 => h (if_neg h9))
  obtain ⟨-, h2, h3⟩ := h1
  rw [hk, nA_nI (by omega)] at h2
  refine ⟨?_, fun c hc => gFc_all K 0 h2 c (Nat.zero_le _) (by omega)⟩
  rw [hk] at h3
  rcases Nat.lt_or_ge 3 K with h4 | h4
  · exact absurd (nI_lt h4 (by omega)) h3
  · exact h4
theorem gFits_01 (σ : gST) : g01 (gFits σ) := g01_if

set_option maxHeartbeats 4000000 in
set_option maxRecDepth 100000 in
theorem ctX10_readGlyph {κ : gK} {σ : gST} (hW : gDW σ) (hH : gHW σ) (hT : gTW σ) (hR : (gFr σ).1 = -1 → ∀ c, c < nA ((gRd σ).1 356 5) → 0 ≤ ((gRd σ).1 362 c).toInt) : gCt κ mX10_readGlyph 9 [.ref (κ.2.1 + 0)] σ (fRead σ).1 (fRead σ).2 1 := by
  refine ct_of (by decide +kernel) rfl (Nat.le_of_ble_eq_true rfl) rfl ?_
  have h24 := hW.ng24
  have hng : (gRd σ).1 2 5 = nI (gNg σ) := (congrFun (gRd_k σ (by decide)) 5).trans hW.ng
  obtain ⟨⟨p, hp, hpe⟩, K, hK, hKe⟩ := gRd_5 σ hT
  by_cases h1 : (gFr σ).1 = -1
  · by_cases h2 : gFits (gRd σ) = 0
    · rw [show fRead σ = (xISE, gRd σ) from (if_neg (fun h9 => h9 h1)).trans (if_pos (Or.inl h2))]
      refine go_aload_n (q := 1) (gDec iX10_readGlyph_ok 0 rfl) rfl rfl rfl ?_
      refine go_aload_n (q := 2) (gDec iX10_readGlyph_ok 1 rfl) rfl rfl rfl ?_
      refine go_getr (r' := 356) (q := 5) fX10_36 (gDec iX10_readGlyph_ok 2 rfl) rfl (by decide) rfl ?_
      refine go_aload_n (q := 6) (gDec iX10_readGlyph_ok 3 rfl) rfl rfl rfl ?_
      refine go_getr (r' := 353) (q := 9) fX10_29 (gDec iX10_readGlyph_ok 4 rfl) rfl (by decide) rfl ?_
      refine go_callV (n2 := 0) (q := 12) kX10_462 (ctX2_faultIn hT) (gDec iX10_readGlyph_ok 5 rfl) rfl rfl (by decide) rfl rfl rfl (Nat.le_of_ble_eq_true rfl) rfl (gFit_rm (by decide) (by decide)) rfl ?_
      refine go_puti (q := 15) fX10_51 gft10 (gDec iX10_readGlyph_ok 6 rfl) rfl (by decide) rfl rfl rfl rfl ?_
      refine go_aload_n (q := 16) (gDec iX10_readGlyph_ok 7 rfl) rfl rfl rfl ?_
      refine go_getr (r' := 353) (q := 19) fX10_29 (gDec iX10_readGlyph_ok 8 rfl) rfl (by decide) rfl ?_
      refine go_callV (n2 := 0) (q := 22) kX10_378 ctX9_clear (gDec iX10_readGlyph_ok 9 rfl) rfl rfl (by decide) rfl rfl rfl (Nat.le_of_ble_eq_true rfl) rfl (gFit_rm (by decide) (by decide)) rfl ?_
      refine go_w (show _ = gRd σ from rfl) ?_
      refine go_aload_n (q := 23) (gDec iX10_readGlyph_ok 10 rfl) rfl rfl rfl ?_
      refine go_geti (q := 26) fX10_51 (gDec iX10_readGlyph_ok 11 rfl) rfl (by decide) rfl ?_
      refine go_top (v' := (gFr σ).1) (gRd_7 σ) ?_
      refine go_iconst (v := (-1)) (q := 27) (gDec iX10_readGlyph_ok 12 rfl) (by decide) rfl ?_
      refine go_icmp_eq (t := 41) (q := 30) (gDec iX10_readGlyph_ok 13 rfl) (by decide) rfl (fun c27 => ?_) (fun c27 => False.elim (c27 h1))
      refine go_aload_n (q := 42) (gDec iX10_readGlyph_ok 19 rfl) rfl rfl rfl ?_
      refine go_getr (r' := 1) (q := 45) fX10_10 (gDec iX10_readGlyph_ok 20 rfl) rfl (by decide) rfl ?_
      refine go_getr (r' := 2) (q := 48) fX10_70 (gDec iX10_readGlyph_ok 21 rfl) rfl (by decide) rfl ?_
      refine go_aload_n (q := 49) (gDec iX10_readGlyph_ok 22 rfl) rfl rfl rfl ?_
      refine go_getr (r' := 356) (q := 52) fX10_36 (gDec iX10_readGlyph_ok 23 rfl) rfl (by decide) rfl ?_
      refine go_callV (n2 := 0) (q := 55) kX10_468 ctX2_code (gDec iX10_readGlyph_ok 24 rfl) rfl rfl (by decide) rfl rfl rfl (Nat.le_of_ble_eq_true rfl) rfl (gFit_rm (by decide) (by decide)) rfl ?_
      refine go_callV (n2 := 0) (q := 58) kX10_80 (ctX5_glyphWith (N := gNg σ) h24 hng) (gDec iX10_readGlyph_ok 25 rfl) rfl rfl (by decide) rfl rfl rfl (Nat.le_of_ble_eq_true rfl) rfl (gFit_rm (by decide) (by decide)) rfl ?_
      refine go_top (v' := gRk σ) (by unfold gRk; rw [gRd_k σ (k := 4) (by decide)]) ?_
      refine go_istore_n (q := 59) (gDec iX10_readGlyph_ok 26 rfl) rfl (by decide) rfl ?_
      refine go_aload_n (q := 60) (gDec iX10_readGlyph_ok 27 rfl) rfl rfl rfl ?_
      refine go_getr (r' := 356) (q := 63) fX10_36 (gDec iX10_readGlyph_ok 28 rfl) rfl (by decide) rfl ?_
      refine go_callV (n2 := 0) (q := 66) kX10_471 (ctX2_fitsIntoGlyph (p := p) (k := K) hpe hp hKe hK) (gDec iX10_readGlyph_ok 29 rfl) rfl rfl (by decide) rfl rfl rfl (Nat.le_of_ble_eq_true rfl) rfl (gFit_rm (by decide) (by decide)) rfl ?_
      refine go_if_eq (t := 87) (q := 69) (gDec iX10_readGlyph_ok 30 rfl) (by decide) rfl (fun c66 => ?_) (fun c66 => False.elim (c66 h2))
      exact go_throwW th_IllegalStateException (List.mem_of_getElem? (i := 38) rfl) rfl rfl (gDec iX10_readGlyph_ok 39 rfl) (gDec iX10_readGlyph_ok 40 rfl) (gDec iX10_readGlyph_ok 41 rfl) (gDec iX10_readGlyph_ok 42 rfl) (gDec iX10_readGlyph_ok 43 rfl) (by decide) (by decide)
    · have h1x := hR h1
      rw [hKe, nA_nI (by omega)] at h1x
      obtain ⟨hK3, hK12⟩ := gFits_3 h2 hKe hK
      by_cases h3 : gRk σ = -1
      · by_cases h4 : gNg σ = 24
        · rw [show fRead σ = (xISE, gRd σ) from (if_neg (fun h9 => h9 h1)).trans (if_pos (Or.inr ⟨h3, h4⟩))]
          refine go_aload_n (q := 1) (gDec iX10_readGlyph_ok 0 rfl) rfl rfl rfl ?_
          refine go_aload_n (q := 2) (gDec iX10_readGlyph_ok 1 rfl) rfl rfl rfl ?_
          refine go_getr (r' := 356) (q := 5) fX10_36 (gDec iX10_readGlyph_ok 2 rfl) rfl (by decide) rfl ?_
          refine go_aload_n (q := 6) (gDec iX10_readGlyph_ok 3 rfl) rfl rfl rfl ?_
          refine go_getr (r' := 353) (q := 9) fX10_29 (gDec iX10_readGlyph_ok 4 rfl) rfl (by decide) rfl ?_
          refine go_callV (n2 := 0) (q := 12) kX10_462 (ctX2_faultIn hT) (gDec iX10_readGlyph_ok 5 rfl) rfl rfl (by decide) rfl rfl rfl (Nat.le_of_ble_eq_true rfl) rfl (gFit_rm (by decide) (by decide)) rfl ?_
          refine go_puti (q := 15) fX10_51 gft10 (gDec iX10_readGlyph_ok 6 rfl) rfl (by decide) rfl rfl rfl rfl ?_
          refine go_aload_n (q := 16) (gDec iX10_readGlyph_ok 7 rfl) rfl rfl rfl ?_
          refine go_getr (r' := 353) (q := 19) fX10_29 (gDec iX10_readGlyph_ok 8 rfl) rfl (by decide) rfl ?_
          refine go_callV (n2 := 0) (q := 22) kX10_378 ctX9_clear (gDec iX10_readGlyph_ok 9 rfl) rfl rfl (by decide) rfl rfl rfl (Nat.le_of_ble_eq_true rfl) rfl (gFit_rm (by decide) (by decide)) rfl ?_
          refine go_w (show _ = gRd σ from rfl) ?_
          refine go_aload_n (q := 23) (gDec iX10_readGlyph_ok 10 rfl) rfl rfl rfl ?_
          refine go_geti (q := 26) fX10_51 (gDec iX10_readGlyph_ok 11 rfl) rfl (by decide) rfl ?_
          refine go_top (v' := (gFr σ).1) (gRd_7 σ) ?_
          refine go_iconst (v := (-1)) (q := 27) (gDec iX10_readGlyph_ok 12 rfl) (by decide) rfl ?_
          refine go_icmp_eq (t := 41) (q := 30) (gDec iX10_readGlyph_ok 13 rfl) (by decide) rfl (fun c27 => ?_) (fun c27 => False.elim (c27 h1))
          refine go_aload_n (q := 42) (gDec iX10_readGlyph_ok 19 rfl) rfl rfl rfl ?_
          refine go_getr (r' := 1) (q := 45) fX10_10 (gDec iX10_readGlyph_ok 20 rfl) rfl (by decide) rfl ?_
          refine go_getr (r' := 2) (q := 48) fX10_70 (gDec iX10_readGlyph_ok 21 rfl) rfl (by decide) rfl ?_
          refine go_aload_n (q := 49) (gDec iX10_readGlyph_ok 22 rfl) rfl rfl rfl ?_
          refine go_getr (r' := 356) (q := 52) fX10_36 (gDec iX10_readGlyph_ok 23 rfl) rfl (by decide) rfl ?_
          refine go_callV (n2 := 0) (q := 55) kX10_468 ctX2_code (gDec iX10_readGlyph_ok 24 rfl) rfl rfl (by decide) rfl rfl rfl (Nat.le_of_ble_eq_true rfl) rfl (gFit_rm (by decide) (by decide)) rfl ?_
          refine go_callV (n2 := 0) (q := 58) kX10_80 (ctX5_glyphWith (N := gNg σ) h24 hng) (gDec iX10_readGlyph_ok 25 rfl) rfl rfl (by decide) rfl rfl rfl (Nat.le_of_ble_eq_true rfl) rfl (gFit_rm (by decide) (by decide)) rfl ?_
          refine go_top (v' := gRk σ) (by unfold gRk; rw [gRd_k σ (k := 4) (by decide)]) ?_
          refine go_istore_n (q := 59) (gDec iX10_readGlyph_ok 26 rfl) rfl (by decide) rfl ?_
          refine go_aload_n (q := 60) (gDec iX10_readGlyph_ok 27 rfl) rfl rfl rfl ?_
          refine go_getr (r' := 356) (q := 63) fX10_36 (gDec iX10_readGlyph_ok 28 rfl) rfl (by decide) rfl ?_
          refine go_callV (n2 := 0) (q := 66) kX10_471 (ctX2_fitsIntoGlyph (p := p) (k := K) hpe hp hKe hK) (gDec iX10_readGlyph_ok 29 rfl) rfl rfl (by decide) rfl rfl rfl (Nat.le_of_ble_eq_true rfl) rfl (gFit_rm (by decide) (by decide)) rfl ?_
          refine go_if_eq (t := 87) (q := 69) (gDec iX10_readGlyph_ok 30 rfl) (by decide) rfl (fun c66 => False.elim (h2 c66)) (fun c66 => ?_)
          refine go_iload_n (q := 70) (gDec iX10_readGlyph_ok 31 rfl) rfl rfl rfl ?_
          refine go_iconst (v := (-1)) (q := 71) (gDec iX10_readGlyph_ok 32 rfl) (by decide) rfl ?_
          refine go_icmp_ne (t := 98) (q := 74) (gDec iX10_readGlyph_ok 33 rfl) (by decide) rfl (fun c71 => False.elim (c71 h3)) (fun c71 => ?_)
          refine go_aload_n (q := 75) (gDec iX10_readGlyph_ok 34 rfl) rfl rfl rfl ?_
          refine go_getr (r' := 1) (q := 78) fX10_10 (gDec iX10_readGlyph_ok 35 rfl) rfl (by decide) rfl ?_
          refine go_getr (r' := 2) (q := 81) fX10_70 (gDec iX10_readGlyph_ok 36 rfl) rfl (by decide) rfl ?_
          refine go_callV (n2 := 0) (q := 84) kX10_74 (ctX5_isFull (n := gNg σ) hng h24) (gDec iX10_readGlyph_ok 37 rfl) rfl rfl (by decide) rfl rfl rfl (Nat.le_of_ble_eq_true rfl) rfl (gFit_rm (by decide) (by decide)) rfl ?_
          refine go_if_eq (t := 98) (q := 87) (gDec iX10_readGlyph_ok 38 rfl) (by decide) rfl (fun c84 => False.elim (by rw [if_pos h4] at c84; exact absurd c84 (by decide))) (fun c84 => ?_)
          exact go_throwW th_IllegalStateException (List.mem_of_getElem? (i := 38) rfl) rfl rfl (gDec iX10_readGlyph_ok 39 rfl) (gDec iX10_readGlyph_ok 40 rfl) (gDec iX10_readGlyph_ok 41 rfl) (gDec iX10_readGlyph_ok 42 rfl) (gDec iX10_readGlyph_ok 43 rfl) (by decide) (by decide)
        · rw [show fRead σ = (rI (nI (gRg σ)), gRz σ) from (if_neg (fun h9 => h9 h1)).trans (if_neg (fun h9 => h9.elim h2 (fun h8 => h4 h8.2)))]
          have hgr : gRg σ = gNg σ := if_pos h3
          have hgg : gRg σ < 24 := by omega
          have hKw : (gRw σ).1 356 5 = nI K := (congrFun (gRw_hi hH (by decide)) 5).trans hKe
          have h12 : ∀ c, c < K → 0 ≤ ((gRw σ).1 362 c).toInt ∧ ((gRw σ).1 362 c).toInt ≤ 12 := fun c hc => by rw [gRw_hi hH (by decide)]; exact ⟨h1x c hc, hK12 c hc⟩
          refine go_aload_n (q := 1) (gDec iX10_readGlyph_ok 0 rfl) rfl rfl rfl ?_
          refine go_aload_n (q := 2) (gDec iX10_readGlyph_ok 1 rfl) rfl rfl rfl ?_
          refine go_getr (r' := 356) (q := 5) fX10_36 (gDec iX10_readGlyph_ok 2 rfl) rfl (by decide) rfl ?_
          refine go_aload_n (q := 6) (gDec iX10_readGlyph_ok 3 rfl) rfl rfl rfl ?_
          refine go_getr (r' := 353) (q := 9) fX10_29 (gDec iX10_readGlyph_ok 4 rfl) rfl (by decide) rfl ?_
          refine go_callV (n2 := 0) (q := 12) kX10_462 (ctX2_faultIn hT) (gDec iX10_readGlyph_ok 5 rfl) rfl rfl (by decide) rfl rfl rfl (Nat.le_of_ble_eq_true rfl) rfl (gFit_rm (by decide) (by decide)) rfl ?_
          refine go_puti (q := 15) fX10_51 gft10 (gDec iX10_readGlyph_ok 6 rfl) rfl (by decide) rfl rfl rfl rfl ?_
          refine go_aload_n (q := 16) (gDec iX10_readGlyph_ok 7 rfl) rfl rfl rfl ?_
          refine go_getr (r' := 353) (q := 19) fX10_29 (gDec iX10_readGlyph_ok 8 rfl) rfl (by decide) rfl ?_
          refine go_callV (n2 := 0) (q := 22) kX10_378 ctX9_clear (gDec iX10_readGlyph_ok 9 rfl) rfl rfl (by decide) rfl rfl rfl (Nat.le_of_ble_eq_true rfl) rfl (gFit_rm (by decide) (by decide)) rfl ?_
          refine go_w (show _ = gRd σ from rfl) ?_
          refine go_aload_n (q := 23) (gDec iX10_readGlyph_ok 10 rfl) rfl rfl rfl ?_
          refine go_geti (q := 26) fX10_51 (gDec iX10_readGlyph_ok 11 rfl) rfl (by decide) rfl ?_
          refine go_top (v' := (gFr σ).1) (gRd_7 σ) ?_
          refine go_iconst (v := (-1)) (q := 27) (gDec iX10_readGlyph_ok 12 rfl) (by decide) rfl ?_
          refine go_icmp_eq (t := 41) (q := 30) (gDec iX10_readGlyph_ok 13 rfl) (by decide) rfl (fun c27 => ?_) (fun c27 => False.elim (c27 h1))
          refine go_aload_n (q := 42) (gDec iX10_readGlyph_ok 19 rfl) rfl rfl rfl ?_
          refine go_getr (r' := 1) (q := 45) fX10_10 (gDec iX10_readGlyph_ok 20 rfl) rfl (by decide) rfl ?_
          refine go_getr (r' := 2) (q := 48) fX10_70 (gDec iX10_readGlyph_ok 21 rfl) rfl (by decide) rfl ?_
          refine go_aload_n (q := 49) (gDec iX10_readGlyph_ok 22 rfl) rfl rfl rfl ?_
          refine go_getr (r' := 356) (q := 52) fX10_36 (gDec iX10_readGlyph_ok 23 rfl) rfl (by decide) rfl ?_
          refine go_callV (n2 := 0) (q := 55) kX10_468 ctX2_code (gDec iX10_readGlyph_ok 24 rfl) rfl rfl (by decide) rfl rfl rfl (Nat.le_of_ble_eq_true rfl) rfl (gFit_rm (by decide) (by decide)) rfl ?_
          refine go_callV (n2 := 0) (q := 58) kX10_80 (ctX5_glyphWith (N := gNg σ) h24 hng) (gDec iX10_readGlyph_ok 25 rfl) rfl rfl (by decide) rfl rfl rfl (Nat.le_of_ble_eq_true rfl) rfl (gFit_rm (by decide) (by decide)) rfl ?_
          refine go_top (v' := gRk σ) (by unfold gRk; rw [gRd_k σ (k := 4) (by decide)]) ?_
          refine go_istore_n (q := 59) (gDec iX10_readGlyph_ok 26 rfl) rfl (by decide) rfl ?_
          refine go_aload_n (q := 60) (gDec iX10_readGlyph_ok 27 rfl) rfl rfl rfl ?_
          refine go_getr (r' := 356) (q := 63) fX10_36 (gDec iX10_readGlyph_ok 28 rfl) rfl (by decide) rfl ?_
          refine go_callV (n2 := 0) (q := 66) kX10_471 (ctX2_fitsIntoGlyph (p := p) (k := K) hpe hp hKe hK) (gDec iX10_readGlyph_ok 29 rfl) rfl rfl (by decide) rfl rfl rfl (Nat.le_of_ble_eq_true rfl) rfl (gFit_rm (by decide) (by decide)) rfl ?_
          refine go_if_eq (t := 87) (q := 69) (gDec iX10_readGlyph_ok 30 rfl) (by decide) rfl (fun c66 => False.elim (h2 c66)) (fun c66 => ?_)
          refine go_iload_n (q := 70) (gDec iX10_readGlyph_ok 31 rfl) rfl rfl rfl ?_
          refine go_iconst (v := (-1)) (q := 71) (gDec iX10_readGlyph_ok 32 rfl) (by decide) rfl ?_
          refine go_icmp_ne (t := 98) (q := 74) (gDec iX10_readGlyph_ok 33 rfl) (by decide) rfl (fun c71 => False.elim (c71 h3)) (fun c71 => ?_)
          refine go_aload_n (q := 75) (gDec iX10_readGlyph_ok 34 rfl) rfl rfl rfl ?_
          refine go_getr (r' := 1) (q := 78) fX10_10 (gDec iX10_readGlyph_ok 35 rfl) rfl (by decide) rfl ?_
          refine go_getr (r' := 2) (q := 81) fX10_70 (gDec iX10_readGlyph_ok 36 rfl) rfl (by decide) rfl ?_
          refine go_callV (n2 := 0) (q := 84) kX10_74 (ctX5_isFull (n := gNg σ) hng h24) (gDec iX10_readGlyph_ok 37 rfl) rfl rfl (by decide) rfl rfl rfl (Nat.le_of_ble_eq_true rfl) rfl (gFit_rm (by decide) (by decide)) rfl ?_
          refine go_if_eq (t := 98) (q := 87) (gDec iX10_readGlyph_ok 38 rfl) (by decide) rfl (fun c84 => ?_) (fun c84 => False.elim (by rw [if_neg h4] at c84; exact c84 rfl))
          refine go_aload_n (q := 99) (gDec iX10_readGlyph_ok 44 rfl) rfl rfl rfl ?_
          refine go_getr (r' := 71) (q := 102) fX10_22 (gDec iX10_readGlyph_ok 45 rfl) rfl (by decide) rfl ?_
          refine go_aload_n (q := 103) (gDec iX10_readGlyph_ok 46 rfl) rfl rfl rfl ?_
          refine go_getr (r' := 1) (q := 106) fX10_10 (gDec iX10_readGlyph_ok 47 rfl) rfl (by decide) rfl ?_
          refine go_callV (n2 := 0) (q := 109) kX10_89 (ctX3_rem (gRd_hw hH)) (gDec iX10_readGlyph_ok 48 rfl) rfl rfl (by decide) rfl rfl rfl (Nat.le_of_ble_eq_true rfl) rfl (gFit_rm (by decide) (by decide)) rfl ?_
          refine go_iload_n (q := 110) (gDec iX10_readGlyph_ok 49 rfl) rfl rfl rfl ?_
          refine go_iconst (v := (-1)) (q := 111) (gDec iX10_readGlyph_ok 50 rfl) (by decide) rfl ?_
          refine go_icmp_ne (t := 134) (q := 114) (gDec iX10_readGlyph_ok 51 rfl) (by decide) rfl (fun c111 => False.elim (c111 h3)) (fun c111 => ?_)
          refine go_aload_n (q := 115) (gDec iX10_readGlyph_ok 52 rfl) rfl rfl rfl ?_
          refine go_getr (r' := 1) (q := 118) fX10_10 (gDec iX10_readGlyph_ok 53 rfl) rfl (by decide) rfl ?_
          refine go_getr (r' := 2) (q := 121) fX10_70 (gDec iX10_readGlyph_ok 54 rfl) rfl (by decide) rfl ?_
          refine go_aload_n (q := 122) (gDec iX10_readGlyph_ok 55 rfl) rfl rfl rfl ?_
          refine go_getr (r' := 356) (q := 125) fX10_36 (gDec iX10_readGlyph_ok 56 rfl) rfl (by decide) rfl ?_
          refine go_callV (n2 := 0) (q := 128) kX10_468 ctX2_code (gDec iX10_readGlyph_ok 57 rfl) rfl rfl (by decide) rfl rfl rfl (Nat.le_of_ble_eq_true rfl) rfl (gFit_rm (by decide) (by decide)) rfl ?_
          refine go_top (v' := (gRd σ).1 356 4) (congrFun (gRem_hi (gRd_hw hH) (by decide)) 4) ?_
          refine go_callV (n2 := 0) (q := 131) kX10_93 (ctX5_addEmptyGlyph (n := gNg σ) (((congrFun ((gRem_D (gRd σ)) 2 (by decide)) 5)).trans hng) (by omega)) (gDec iX10_readGlyph_ok 58 rfl) rfl rfl (by decide) rfl rfl rfl (Nat.le_of_ble_eq_true rfl) rfl (gFit_rm (by decide) (by decide)) rfl ?_
          refine go_goto (t := 135) (gDec iX10_readGlyph_ok 59 rfl) (by decide) ?_
          refine go_top (v' := nI (gRg σ)) (by rw [hgr]) ?_
          refine go_w (show _ = gRw σ from (by unfold gRw; rw [if_pos h3])) ?_
          refine go_istore_n (q := 136) (gDec iX10_readGlyph_ok 61 rfl) rfl (by decide) rfl ?_
          refine go_aload_n (q := 137) (gDec iX10_readGlyph_ok 62 rfl) rfl rfl rfl ?_
          refine go_getr (r' := 356) (q := 140) fX10_36 (gDec iX10_readGlyph_ok 63 rfl) rfl (by decide) rfl ?_
          refine go_aload_n (q := 141) (gDec iX10_readGlyph_ok 64 rfl) rfl rfl rfl ?_
          refine go_getr (r' := 1) (q := 144) fX10_10 (gDec iX10_readGlyph_ok 65 rfl) rfl (by decide) rfl ?_
          refine go_getr (r' := 2) (q := 147) fX10_70 (gDec iX10_readGlyph_ok 66 rfl) rfl (by decide) rfl ?_
          refine go_iload_n (q := 148) (gDec iX10_readGlyph_ok 67 rfl) rfl rfl rfl ?_
          refine go_callV (n2 := 0) (q := 151) kX10_476 (ctX2_drawInto (σ := gRw σ) (g := gRg σ) (K := K) hgg hK3 hKw h12) (gDec iX10_readGlyph_ok 68 rfl) rfl rfl (by decide) rfl rfl rfl (Nat.le_of_ble_eq_true rfl) rfl (gFit_rm (by decide) (by decide)) rfl ?_
          refine go_w (show _ = gRz σ from (by unfold gRz; rw [hKe, nA_nI (by omega)])) ?_
          refine go_iload_n (q := 152) (gDec iX10_readGlyph_ok 69 rfl) rfl rfl rfl ?_
          exact go_ireturn (gDec iX10_readGlyph_ok 70 rfl) rfl rfl rfl rfl (by decide)
      · rw [show fRead σ = (rI (nI (gRg σ)), gRz σ) from (if_neg (fun h9 => h9 h1)).trans (if_neg (fun h9 => h9.elim h2 (fun h8 => h3 h8.1)))]
        obtain ⟨k, -, hk, hke, -⟩ := (gFind_ex (f := σ.1 4) (c := (gRd σ).1 356 4) (gNg σ) 0).resolve_left h3
        have hgr : gRg σ = k := by unfold gRg; rw [if_neg h3]; show nA (gRk σ) = k; rw [show gRk σ = nI k from hke]; exact nA_nI (by omega)
        have hgk : gRk σ = nI (gRg σ) := by rw [hgr]; exact hke
        have hgg : gRg σ < 24 := by omega
        have hKw : (gRw σ).1 356 5 = nI K := (congrFun (gRw_hi hH (by decide)) 5).trans hKe
        have h12 : ∀ c, c < K → 0 ≤ ((gRw σ).1 362 c).toInt ∧ ((gRw σ).1 362 c).toInt ≤ 12 := fun c hc => by rw [gRw_hi hH (by decide)]; exact ⟨h1x c hc, hK12 c hc⟩
        refine go_aload_n (q := 1) (gDec iX10_readGlyph_ok 0 rfl) rfl rfl rfl ?_
        refine go_aload_n (q := 2) (gDec iX10_readGlyph_ok 1 rfl) rfl rfl rfl ?_
        refine go_getr (r' := 356) (q := 5) fX10_36 (gDec iX10_readGlyph_ok 2 rfl) rfl (by decide) rfl ?_
        refine go_aload_n (q := 6) (gDec iX10_readGlyph_ok 3 rfl) rfl rfl rfl ?_
        refine go_getr (r' := 353) (q := 9) fX10_29 (gDec iX10_readGlyph_ok 4 rfl) rfl (by decide) rfl ?_
        refine go_callV (n2 := 0) (q := 12) kX10_462 (ctX2_faultIn hT) (gDec iX10_readGlyph_ok 5 rfl) rfl rfl (by decide) rfl rfl rfl (Nat.le_of_ble_eq_true rfl) rfl (gFit_rm (by decide) (by decide)) rfl ?_
        refine go_puti (q := 15) fX10_51 gft10 (gDec iX10_readGlyph_ok 6 rfl) rfl (by decide) rfl rfl rfl rfl ?_
        refine go_aload_n (q := 16) (gDec iX10_readGlyph_ok 7 rfl) rfl rfl rfl ?_
        refine go_getr (r' := 353) (q := 19) fX10_29 (gDec iX10_readGlyph_ok 8 rfl) rfl (by decide) rfl ?_
        refine go_callV (n2 := 0) (q := 22) kX10_378 ctX9_clear (gDec iX10_readGlyph_ok 9 rfl) rfl rfl (by decide) rfl rfl rfl (Nat.le_of_ble_eq_true rfl) rfl (gFit_rm (by decide) (by decide)) rfl ?_
        refine go_w (show _ = gRd σ from rfl) ?_
        refine go_aload_n (q := 23) (gDec iX10_readGlyph_ok 10 rfl) rfl rfl rfl ?_
        refine go_geti (q := 26) fX10_51 (gDec iX10_readGlyph_ok 11 rfl) rfl (by decide) rfl ?_
        refine go_top (v' := (gFr σ).1) (gRd_7 σ) ?_
        refine go_iconst (v := (-1)) (q := 27) (gDec iX10_readGlyph_ok 12 rfl) (by decide) rfl ?_
        refine go_icmp_eq (t := 41) (q := 30) (gDec iX10_readGlyph_ok 13 rfl) (by decide) rfl (fun c27 => ?_) (fun c27 => False.elim (c27 h1))
        refine go_aload_n (q := 42) (gDec iX10_readGlyph_ok 19 rfl) rfl rfl rfl ?_
        refine go_getr (r' := 1) (q := 45) fX10_10 (gDec iX10_readGlyph_ok 20 rfl) rfl (by decide) rfl ?_
        refine go_getr (r' := 2) (q := 48) fX10_70 (gDec iX10_readGlyph_ok 21 rfl) rfl (by decide) rfl ?_
        refine go_aload_n (q := 49) (gDec iX10_readGlyph_ok 22 rfl) rfl rfl rfl ?_
        refine go_getr (r' := 356) (q := 52) fX10_36 (gDec iX10_readGlyph_ok 23 rfl) rfl (by decide) rfl ?_
        refine go_callV (n2 := 0) (q := 55) kX10_468 ctX2_code (gDec iX10_readGlyph_ok 24 rfl) rfl rfl (by decide) rfl rfl rfl (Nat.le_of_ble_eq_true rfl) rfl (gFit_rm (by decide) (by decide)) rfl ?_
        refine go_callV (n2 := 0) (q := 58) kX10_80 (ctX5_glyphWith (N := gNg σ) h24 hng) (gDec iX10_readGlyph_ok 25 rfl) rfl rfl (by decide) rfl rfl rfl (Nat.le_of_ble_eq_true rfl) rfl (gFit_rm (by decide) (by decide)) rfl ?_
        refine go_top (v' := gRk σ) (by unfold gRk; rw [gRd_k σ (k := 4) (by decide)]) ?_
        refine go_istore_n (q := 59) (gDec iX10_readGlyph_ok 26 rfl) rfl (by decide) rfl ?_
        refine go_aload_n (q := 60) (gDec iX10_readGlyph_ok 27 rfl) rfl rfl rfl ?_
        refine go_getr (r' := 356) (q := 63) fX10_36 (gDec iX10_readGlyph_ok 28 rfl) rfl (by decide) rfl ?_
        refine go_callV (n2 := 0) (q := 66) kX10_471 (ctX2_fitsIntoGlyph (p := p) (k := K) hpe hp hKe hK) (gDec iX10_readGlyph_ok 29 rfl) rfl rfl (by decide) rfl rfl rfl (Nat.le_of_ble_eq_true rfl) rfl (gFit_rm (by decide) (by decide)) rfl ?_
        refine go_if_eq (t := 87) (q := 69) (gDec iX10_readGlyph_ok 30 rfl) (by decide) rfl (fun c66 => False.elim (h2 c66)) (fun c66 => ?_)
        refine go_iload_n (q := 70) (gDec iX10_readGlyph_ok 31 rfl) rfl rfl rfl ?_
        refine go_iconst (v := (-1)) (q := 71) (gDec iX10_readGlyph_ok 32 rfl) (by decide) rfl ?_
        refine go_icmp_ne (t := 98) (q := 74) (gDec iX10_readGlyph_ok 33 rfl) (by decide) rfl (fun c71 => ?_) (fun c71 => False.elim (h3 c71))
        refine go_aload_n (q := 99) (gDec iX10_readGlyph_ok 44 rfl) rfl rfl rfl ?_
        refine go_getr (r' := 71) (q := 102) fX10_22 (gDec iX10_readGlyph_ok 45 rfl) rfl (by decide) rfl ?_
        refine go_aload_n (q := 103) (gDec iX10_readGlyph_ok 46 rfl) rfl rfl rfl ?_
        refine go_getr (r' := 1) (q := 106) fX10_10 (gDec iX10_readGlyph_ok 47 rfl) rfl (by decide) rfl ?_
        refine go_callV (n2 := 0) (q := 109) kX10_89 (ctX3_rem (gRd_hw hH)) (gDec iX10_readGlyph_ok 48 rfl) rfl rfl (by decide) rfl rfl rfl (Nat.le_of_ble_eq_true rfl) rfl (gFit_rm (by decide) (by decide)) rfl ?_
        refine go_iload_n (q := 110) (gDec iX10_readGlyph_ok 49 rfl) rfl rfl rfl ?_
        refine go_iconst (v := (-1)) (q := 111) (gDec iX10_readGlyph_ok 50 rfl) (by decide) rfl ?_
        refine go_icmp_ne (t := 134) (q := 114) (gDec iX10_readGlyph_ok 51 rfl) (by decide) rfl (fun c111 => ?_) (fun c111 => False.elim (h3 c111))
        refine go_iload_n (q := 135) (gDec iX10_readGlyph_ok 60 rfl) rfl rfl rfl ?_
        refine go_top (v' := nI (gRg σ)) (hgk) ?_
        refine go_w (show _ = gRw σ from (by unfold gRw; rw [if_neg h3])) ?_
        refine go_istore_n (q := 136) (gDec iX10_readGlyph_ok 61 rfl) rfl (by decide) rfl ?_
        refine go_aload_n (q := 137) (gDec iX10_readGlyph_ok 62 rfl) rfl rfl rfl ?_
        refine go_getr (r' := 356) (q := 140) fX10_36 (gDec iX10_readGlyph_ok 63 rfl) rfl (by decide) rfl ?_
        refine go_aload_n (q := 141) (gDec iX10_readGlyph_ok 64 rfl) rfl rfl rfl ?_
        refine go_getr (r' := 1) (q := 144) fX10_10 (gDec iX10_readGlyph_ok 65 rfl) rfl (by decide) rfl ?_
        refine go_getr (r' := 2) (q := 147) fX10_70 (gDec iX10_readGlyph_ok 66 rfl) rfl (by decide) rfl ?_
        refine go_iload_n (q := 148) (gDec iX10_readGlyph_ok 67 rfl) rfl rfl rfl ?_
        refine go_callV (n2 := 0) (q := 151) kX10_476 (ctX2_drawInto (σ := gRw σ) (g := gRg σ) (K := K) hgg hK3 hKw h12) (gDec iX10_readGlyph_ok 68 rfl) rfl rfl (by decide) rfl rfl rfl (Nat.le_of_ble_eq_true rfl) rfl (gFit_rm (by decide) (by decide)) rfl ?_
        refine go_w (show _ = gRz σ from (by unfold gRz; rw [hKe, nA_nI (by omega)])) ?_
        refine go_iload_n (q := 152) (gDec iX10_readGlyph_ok 69 rfl) rfl rfl rfl ?_
        exact go_ireturn (gDec iX10_readGlyph_ok 70 rfl) rfl rfl rfl rfl (by decide)
  · rw [show fRead σ = (xIAE, gRd σ) from if_pos h1]
    refine go_aload_n (q := 1) (gDec iX10_readGlyph_ok 0 rfl) rfl rfl rfl ?_
    refine go_aload_n (q := 2) (gDec iX10_readGlyph_ok 1 rfl) rfl rfl rfl ?_
    refine go_getr (r' := 356) (q := 5) fX10_36 (gDec iX10_readGlyph_ok 2 rfl) rfl (by decide) rfl ?_
    refine go_aload_n (q := 6) (gDec iX10_readGlyph_ok 3 rfl) rfl rfl rfl ?_
    refine go_getr (r' := 353) (q := 9) fX10_29 (gDec iX10_readGlyph_ok 4 rfl) rfl (by decide) rfl ?_
    refine go_callV (n2 := 0) (q := 12) kX10_462 (ctX2_faultIn hT) (gDec iX10_readGlyph_ok 5 rfl) rfl rfl (by decide) rfl rfl rfl (Nat.le_of_ble_eq_true rfl) rfl (gFit_rm (by decide) (by decide)) rfl ?_
    refine go_puti (q := 15) fX10_51 gft10 (gDec iX10_readGlyph_ok 6 rfl) rfl (by decide) rfl rfl rfl rfl ?_
    refine go_aload_n (q := 16) (gDec iX10_readGlyph_ok 7 rfl) rfl rfl rfl ?_
    refine go_getr (r' := 353) (q := 19) fX10_29 (gDec iX10_readGlyph_ok 8 rfl) rfl (by decide) rfl ?_
    refine go_callV (n2 := 0) (q := 22) kX10_378 ctX9_clear (gDec iX10_readGlyph_ok 9 rfl) rfl rfl (by decide) rfl rfl rfl (Nat.le_of_ble_eq_true rfl) rfl (gFit_rm (by decide) (by decide)) rfl ?_
    refine go_w (show _ = gRd σ from rfl) ?_
    refine go_aload_n (q := 23) (gDec iX10_readGlyph_ok 10 rfl) rfl rfl rfl ?_
    refine go_geti (q := 26) fX10_51 (gDec iX10_readGlyph_ok 11 rfl) rfl (by decide) rfl ?_
    refine go_top (v' := (gFr σ).1) (gRd_7 σ) ?_
    refine go_iconst (v := (-1)) (q := 27) (gDec iX10_readGlyph_ok 12 rfl) (by decide) rfl ?_
    refine go_icmp_eq (t := 41) (q := 30) (gDec iX10_readGlyph_ok 13 rfl) (by decide) rfl (fun c27 => False.elim (h1 c27)) (fun c27 => ?_)
    exact go_throwW th_IllegalArgumentException (List.mem_of_getElem? (i := 37) rfl) rfl rfl (gDec iX10_readGlyph_ok 14 rfl) (gDec iX10_readGlyph_ok 15 rfl) (gDec iX10_readGlyph_ok 16 rfl) (gDec iX10_readGlyph_ok 17 rfl) (gDec iX10_readGlyph_ok 18 rfl) (by decide) (by decide)
