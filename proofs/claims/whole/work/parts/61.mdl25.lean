/-- designs, history and snapshot stay; buffer, proof and fault may change -/
theorem gAll.low {τ τ' σ σ' : gST} (h : gAll τ σ) (hk : ∀ k, k ≠ 0 → k < 353 → τ'.1 k = τ.1 k) (h06 : τ'.1 0 6 = τ.1 0 6) (hT : gTW τ') (hP : gPW τ') (hB1 : ∀ i, i < gTl τ' → 0 ≤ (τ'.1 355 i).toInt ∧ (τ'.1 355 i).toInt ≤ 65535) (hB2 : ∀ i, i < gPl_ τ' → (τ'.1 365 i).toInt < gNg τ)
    (e377 : σ'.1 377 = σ.1 377) (e378 : σ'.1 378 = σ.1 378) (e379 : σ'.1 379 = σ.1 379) (e2 : σ'.1 376 2 = σ.1 376 2) (e4 : σ'.1 376 4 = σ.1 376 4) (hB : gBR τ' σ') : gAll τ' σ' := by
  have hE : gEqL τ τ' := gEqL.of (fun k h1 h2 => hk k (by omega) (by omega))
  have e71 : τ'.1 71 = τ.1 71 := hk 71 (by decide) (by decide)
  have hn := h.n8
  have hx : nA (τ.1 71 1) ≤ 7 := nA_le h.cb.1.1.2
  refine ⟨hE.ci h.ci, ⟨?_, hT, hP, hB1, ?_⟩, ?_, ⟨?_, fun j hj => ?_⟩, ⟨?_, ?_⟩, hB⟩
  · unfold gHW; rw [e71]; exact h.cb.1
  · rw [hE.ng]; exact hB2
  · rw [e377]; exact hE.mr h.ci.dw h.mr
  · rw [e4, e71]; exact h.hr.1
  · rw [e71] at hj
    have hsl : gSlot τ' j = gSlot τ j := by unfold gSlot; rw [e71]
    have h73 : 73 ≤ gSlot τ j ∧ gSlot τ j + 35 ≤ 353 := by unfold gSlot; omega
    have hE2 : gEqL (gDg τ (gSlot τ j)) (gDg τ' (gSlot τ j)) := gEqL.of (fun k h1 h2 => hk _ (by omega) (by omega))
    obtain ⟨q1, q2⟩ := h.hr.2 j hj
    rw [hsl, e379]
    exact ⟨hE2.ci q1, hE2.mr q1.dw q2⟩
  · rw [e2, h06]; exact h.sr.1
  · rw [h06, e378]
    rcases h.sr.2 with h9 | ⟨h9, q1, q2⟩
    · exact Or.inl h9
    · have hE2 : gEqL (gDg τ 36) (gDg τ' 36) := gEqL.of (fun k h1 h2 => hk _ (by omega) (by omega))
      exact Or.inr ⟨h9, hE2.ci q1, hE2.mr q1.dw q2⟩
theorem vp_char_nI {k : Nat} (hk : k < 65536) : vp_nar .char (nI k) = nI k := by
  rw [vp_nar_char]
  apply Int32.toBitVec_inj.mp
  apply BitVec.eq_of_toNat_eq
  show (nI k).toUInt32.toUInt16.toUInt32.toNat = (BitVec.ofNat 32 k).toNat
  have h1 : (nI k).toUInt32.toNat = k := by
    show (BitVec.ofNat 32 k).toNat = k
    rw [BitVec.toNat_ofNat]
    exact Nat.mod_eq_of_lt (by omega)
  rw [UInt16.toNat_toUInt32, UInt32.toNat_toUInt16, h1, BitVec.toNat_ofNat]
  omega
theorem gC_nar {c : Int32} (h : 0 ≤ c.toInt ∧ c.toInt ≤ 65535) : vp_nar .char c = c := by
  obtain ⟨k, hk, rfl⟩ := gIn_ex (n := 65536) (show 0 ≤ c.toInt ∧ c.toInt ≤ ((65536 : Nat) : Int) - 1 from ⟨h.1, by omega⟩)
  exact vp_char_nI hk

set_option maxHeartbeats 4000000 in
set_option maxRecDepth 100000 in
theorem ok_append {κ : gK} {σ τ : gST} {c : Int32} (h : gAll τ σ) (hc : 0 ≤ c.toInt ∧ c.toInt ≤ 65535) : gOK κ mX11_append [.ref (κ.2.1 + 376), .int c] σ (.inl none) kS (fAppend τ c) := by
  have hT := h.cb.2.1
  have h60 := hT.tl60
  have hl : σ.1 376 7 = nI (gTl τ) := h.br.1.1.trans hT.tl
  by_cases h1 : gTl τ = 60
  · rw [show fAppend τ c = (xISE, τ) from if_pos h1]
    refine gOK.rd h rfl ?_
    refine ct_of (by decide +kernel) rfl (Nat.le_of_ble_eq_true rfl) rfl ?_
    refine go_aload_n (q := 1) (gDec iX11_append_ok 0 rfl) rfl rfl rfl ?_
    refine go_aload_n (q := 2) (gDec iX11_append_ok 1 rfl) rfl rfl rfl ?_
    refine go_geti (q := 5) fX11_197 (gDec iX11_append_ok 2 rfl) rfl (by decide) rfl ?_
    refine go_top (v' := nI 60) (hl.trans (by rw [h1])) ?_
    refine go_bipush (v := nI 60) (q := 7) (gDec iX11_append_ok 3 rfl) (by decide) rfl ?_
    refine go_icmp_ne (t := 14) (q := 10) (gDec iX11_append_ok 4 rfl) (by decide) rfl (fun c7 => False.elim (c7 rfl)) (fun c7 => ?_)
    refine go_iconst (v := nI 1) (q := 11) (gDec iX11_append_ok 5 rfl) (by decide) rfl ?_
    refine go_goto (t := 15) (gDec iX11_append_ok 6 rfl) (by decide) ?_
    refine go_puti (q := 18) fX11_54 gft11 (gDec iX11_append_ok 8 rfl) rfl (by decide) rfl rfl rfl rfl ?_
    refine go_aload_n (q := 19) (gDec iX11_append_ok 9 rfl) rfl rfl rfl ?_
    refine go_geti (q := 22) fX11_54 (gDec iX11_append_ok 10 rfl) rfl (by decide) rfl ?_
    refine go_top (v' := nI 1) rfl ?_
    refine go_if_ne (t := 45) (q := 25) (gDec iX11_append_ok 11 rfl) (by decide) rfl (fun c22 => ?_) (fun c22 => False.elim (absurd c22 (by decide)))
    exact go_return (gDec iX11_append_ok 24 rfl) rfl rfl (congrArg (gPut σ 376 5) xc_S_S) (by decide)
  · rw [show fAppend τ c = (.inl none, (gPut (gPut τ 355 (gTl τ) c) 353 1 (nI (gTl τ + 1)))) from if_neg h1]
    refine ⟨(gPut (gPut (gPut σ 376 5 0) 380 (gTl τ) c) 376 7 (nI (gTl τ + 1))), ?_, ?_, ⟨fun k hk => ?_, rfl⟩, ?_⟩
    · refine ct_of (by decide +kernel) rfl (Nat.le_of_ble_eq_true rfl) rfl ?_
      refine go_aload_n (q := 1) (gDec iX11_append_ok 0 rfl) rfl rfl rfl ?_
      refine go_aload_n (q := 2) (gDec iX11_append_ok 1 rfl) rfl rfl rfl ?_
      refine go_geti (q := 5) fX11_197 (gDec iX11_append_ok 2 rfl) rfl (by decide) rfl ?_
      refine go_top (v' := nI (gTl τ)) (hl) ?_
      refine go_bipush (v := nI 60) (q := 7) (gDec iX11_append_ok 3 rfl) (by decide) rfl ?_
      refine go_icmp_ne (t := 14) (q := 10) (gDec iX11_append_ok 4 rfl) (by decide) rfl (fun c7 => ?_) (fun c7 => False.elim (absurd ((nI_eq (a := gTl τ) (b := 60) (by omega) (by decide)).mp c7) h1))
      refine go_iconst (v := nI 0) (q := 15) (gDec iX11_append_ok 7 rfl) (by decide) rfl ?_
      refine go_puti (q := 18) fX11_54 gft11 (gDec iX11_append_ok 8 rfl) rfl (by decide) rfl rfl rfl rfl ?_
      refine go_aload_n (q := 19) (gDec iX11_append_ok 9 rfl) rfl rfl rfl ?_
      refine go_geti (q := 22) fX11_54 (gDec iX11_append_ok 10 rfl) rfl (by decide) rfl ?_
      refine go_top (v' := nI 0) rfl ?_
      refine go_if_ne (t := 45) (q := 25) (gDec iX11_append_ok 11 rfl) (by decide) rfl (fun c22 => False.elim (c22 rfl)) (fun c22 => ?_)
      refine go_aload_n (q := 26) (gDec iX11_append_ok 12 rfl) rfl rfl rfl ?_
      refine go_getr (r' := 380) (q := 29) fX11_19 (gDec iX11_append_ok 13 rfl) rfl (by decide) rfl ?_
      refine go_aload_n (q := 30) (gDec iX11_append_ok 14 rfl) rfl rfl rfl ?_
      refine go_geti (q := 33) fX11_197 (gDec iX11_append_ok 15 rfl) rfl (by decide) rfl ?_
      refine go_top (v' := nI (gTl τ)) (hl) ?_
      refine go_iload_n (q := 34) (gDec iX11_append_ok 16 rfl) rfl rfl rfl ?_
      refine go_castN (q := 35) (gDec iX11_append_ok 17 rfl) rfl (by decide) (by omega) (by decide) rfl ?_
      refine go_w (show _ = gPut (gPut σ 376 5 0) 380 (gTl τ) c from (by rw [gC_nar hc]; rfl)) ?_
      refine go_aload_n (q := 36) (gDec iX11_append_ok 18 rfl) rfl rfl rfl ?_
      refine go_dup (q := 37) (gDec iX11_append_ok 19 rfl) rfl rfl ?_
      refine go_geti (q := 40) fX11_197 (gDec iX11_append_ok 20 rfl) rfl (by decide) rfl ?_
      refine go_top (v' := nI (gTl τ)) (hl) ?_
      refine go_iconst (v := nI 1) (q := 41) (gDec iX11_append_ok 21 rfl) (by decide) rfl ?_
      refine go_iaddN (c := (gTl τ) + 1) (q := 42) (gDec iX11_append_ok 22 rfl) rfl rfl ?_
      refine go_puti (q := 45) fX11_197 gft11 (gDec iX11_append_ok 23 rfl) rfl (by decide) rfl rfl rfl rfl ?_
      exact go_return (gDec iX11_append_ok 24 rfl) rfl rfl rfl (by decide)
    · rw [gPut_at, if_neg (by omega), gPut_ne _ _ _ (by decide), gPut_at, if_pos ⟨rfl, rfl⟩]; rfl
    · rw [gPut_ne _ _ _ (by omega), gPut_ne _ _ _ (by omega), gPut_ne _ _ _ (by omega)]
    · have et : gTl (gPut (gPut τ 355 (gTl τ) c) 353 1 (nI (gTl τ + 1))) = gTl τ + 1 := by unfold gTl; rw [gPut_at, if_pos ⟨rfl, rfl⟩]; exact nA_nI (by have : nA (τ.1 353 1) = gTl τ := rfl; omega)
      refine h.low (fun k q1 q2 => by rw [gPut_ne _ _ _ (by omega), gPut_ne _ _ _ (by omega)]) rfl ?_ h.cb.2.2.1 ?_ h.cb.2.2.2.2 rfl rfl rfl rfl rfl ⟨⟨?_, ?_⟩, h.br.2⟩
      · unfold gTW
        rw [gPut_at, if_pos ⟨rfl, rfl⟩, nI_toInt (by omega)]
        omega
      · rw [et]
        intro i hi
        rw [gPut_ne _ _ _ (by decide), gPut_s, uN]
        split
        · exact hc
        · exact h.cb.2.2.2.1 i (by omega)
      · rw [gPut_at, if_pos ⟨rfl, rfl⟩, gPut_at, if_pos ⟨rfl, rfl⟩]
      · rw [et]
        intro i hi
        show (gPut (gPut (gPut σ 376 5 0) 380 (gTl τ) c) 376 7 (nI (gTl τ + 1))).1 380 i = (gPut (gPut τ 355 (gTl τ) c) 353 1 (nI (gTl τ + 1))).1 355 i
        rw [gPut_ne _ _ _ (by decide), gPut_s, uN, gPut_ne _ _ _ (by decide), gPut_ne _ _ _ (by decide), gPut_s, uN]
        split
        · rfl
        · exact h.br.1.2 i (by omega)

set_option maxHeartbeats 4000000 in
set_option maxRecDepth 100000 in
theorem ok_save {κ : gK} {σ τ : gST} (h : gAll τ σ) : gOK κ mX11_save [.ref (κ.2.1 + 376)] σ (.inl none) kS (fSave τ) := by
  have hE : gEqL τ (gDg (gPut (gDc gLX1_copyFrom τ 36 1) 0 6 1) 36) := ((gDg_1 τ).sy.tr (gDc_eq (by decide) (by decide))).tr (gDg_put (by decide) (by decide))
  have ho : ∀ k, k ≠ 0 → (k < 36 ∨ 71 ≤ k) → (gPut (gDc gLX1_copyFrom τ 36 1) 0 6 1).1 k = τ.1 k := fun k q1 q2 => by
    rw [gPut_ne _ _ _ q1]
    exact funext (fun i => gDc_out (by omega) i)
  have hE1 : gEqL τ (gPut (gDc gLX1_copyFrom τ 36 1) 0 6 1) := gEqL.of (fun k h1 h2 => ho k (by omega) (by omega))
  have e0 : ∀ j, j ≠ 6 → (gPut (gDc gLX1_copyFrom τ 36 1) 0 6 1).1 0 j = τ.1 0 j := fun j hj => by
    rw [gPut_at, if_neg (by omega)]
    exact gDc_out (by omega) j
  have e6 : (gPut (gDc gLX1_copyFrom τ 36 1) 0 6 1).1 0 6 = 1 := by rw [gPut_at, if_pos ⟨rfl, rfl⟩]
  have e71 := ho 71 (by decide) (by decide)
  have hn := h.n8
  have hx : nA (τ.1 71 1) ≤ 7 := nA_le h.cb.1.1.2
  refine ⟨gPut (gSA (gPut σ 376 5 0).1 378 (va_cpy (σ.1 377) (σ.1 378) 0 0 2500), (gPut σ 376 5 0).2) 376 2 1, ?_, ?_, ⟨fun k hk => ?_, rfl⟩, ?_⟩
  · refine ct_of (by decide +kernel) rfl (Nat.le_of_ble_eq_true rfl) rfl ?_
    refine go_aload_n (q := 1) (gDec iX11_save_ok 0 rfl) rfl rfl rfl ?_
    refine go_iconst (v := nI 0) (q := 2) (gDec iX11_save_ok 1 rfl) (by decide) rfl ?_
    refine go_puti (q := 5) fX11_54 gft11 (gDec iX11_save_ok 2 rfl) rfl (by decide) rfl rfl rfl rfl ?_
    refine go_aload_n (q := 6) (gDec iX11_save_ok 3 rfl) rfl rfl rfl ?_
    refine go_getr (r' := 377) (q := 9) fX11_9 (gDec iX11_save_ok 4 rfl) rfl (by decide) rfl ?_
    refine go_iconst (v := nI 0) (q := 10) (gDec iX11_save_ok 5 rfl) (by decide) rfl ?_
    refine go_aload_n (q := 11) (gDec iX11_save_ok 6 rfl) rfl rfl rfl ?_
    refine go_getr (r' := 378) (q := 14) fX11_13 (gDec iX11_save_ok 7 rfl) rfl (by decide) rfl ?_
    refine go_iconst (v := nI 0) (q := 15) (gDec iX11_save_ok 8 rfl) (by decide) rfl ?_
    refine go_sipush (v := nI 2500) (q := 18) (gDec iX11_save_ok 9 rfl) (by decide) rfl ?_
    refine go_copy (q := 21) kX11_79 (gDec iX11_save_ok 10 rfl) rfl rfl (by decide) (by decide) (by decide) (by decide) (by decide) (by decide) (by decide) (Nat.le_of_ble_eq_true rfl) (gFit_rm (by decide) (by decide)) rfl ?_
    refine go_w (show _ = (gSA (gPut σ 376 5 0).1 378 (va_cpy (σ.1 377) (σ.1 378) 0 0 2500), (gPut σ 376 5 0).2) from (by rw [nI_clamp (by decide), nI_clamp (by decide)]; rfl)) ?_
    refine go_aload_n (q := 22) (gDec iX11_save_ok 11 rfl) rfl rfl rfl ?_
    refine go_iconst (v := 1) (q := 23) (gDec iX11_save_ok 12 rfl) (by decide) rfl ?_
    refine go_puti (q := 26) fX11_273 gft11 (gDec iX11_save_ok 13 rfl) rfl (by decide) rfl rfl rfl rfl ?_
    exact go_return (gDec iX11_save_ok 14 rfl) rfl rfl rfl (by decide)
  · rw [gPut_at, if_neg (by omega)]
    rfl
  · rw [gPut_ne _ _ _ (by omega)]
    exact (gSA_ne _ _ (by omega)).trans (gPut_ne _ _ _ (by omega))
  · show gAll (gPut (gDc gLX1_copyFrom τ 36 1) 0 6 1) _
    generalize hτ : gPut (gDc gLX1_copyFrom τ 36 1) 0 6 1 = τ' at *
    refine ⟨hE1.ci h.ci, ⟨?_, ?_, ?_, ?_, ?_⟩, hE1.mr h.ci.dw h.mr, ⟨?_, fun j hj => ?_⟩, ⟨?_, Or.inr ⟨e6, hE.ci h.ci, gMR.cs (hE.dw h.ci.dw) (fun i hi => ?_) (hE.mr h.ci.dw h.mr)⟩⟩, ⟨⟨?_, ?_⟩, ⟨?_, ?_⟩, ?_⟩⟩
    · unfold gHW; rw [e71]; exact h.cb.1
    · unfold gTW; rw [ho 353 (by decide) (by decide)]; exact h.cb.2.1
    · unfold gPW; rw [ho 363 (by decide) (by decide), ho 365 (by decide) (by decide)]; exact h.cb.2.2.1
    · unfold gTl; rw [ho 353 (by decide) (by decide), ho 355 (by decide) (by decide)]; exact h.cb.2.2.2.1
    · unfold gPl_; rw [ho 363 (by decide) (by decide), ho 365 (by decide) (by decide), hE1.ng]; exact h.cb.2.2.2.2
    · rw [e71]; exact h.hr.1
    · rw [e71] at hj
      have hsl : gSlot τ' j = gSlot τ j := by unfold gSlot; rw [e71]
      have h73 : 73 ≤ gSlot τ j ∧ gSlot τ j + 35 ≤ 353 := by unfold gSlot; omega
      have hE2 : gEqL (gDg τ (gSlot τ j)) (gDg τ' (gSlot τ j)) := gEqL.of (fun k h1 h2 => ho _ (by omega) (by omega))
      obtain ⟨q1, q2⟩ := h.hr.2 j hj
      rw [hsl]
      exact ⟨hE2.ci q1, hE2.mr q1.dw q2⟩
    · rw [gPut_at, if_pos ⟨rfl, rfl⟩, e6]
    · show va_cpy (σ.1 377) (σ.1 378) 0 0 2500 i = _
      unfold va_cpy
      rw [if_pos (by omega), show 0 + (i - 0) = i by omega]
    · rw [ho 353 (by decide) (by decide)]; exact h.br.1.1
    · unfold gTl; rw [ho 353 (by decide) (by decide), ho 355 (by decide) (by decide)]; exact h.br.1.2
    · rw [ho 363 (by decide) (by decide)]; exact h.br.2.1.1
    · unfold gPl_; rw [ho 363 (by decide) (by decide), ho 365 (by decide) (by decide)]; exact h.br.2.1.2
    · rw [e0 7 (by decide)]; exact h.br.2.2

set_option maxHeartbeats 4000000 in
set_option maxRecDepth 100000 in
theorem ok_restore {κ : gK} {σ τ : gST} (h : gAll τ σ) : gOK κ mX11_restore [.ref (κ.2.1 + 376)] σ (.inl none) kS (fRestore τ) := by
  rcases h.sr.2 with h0 | ⟨h0, q1, q2⟩
  · rw [show fRestore τ = (xISE, τ) from if_pos h0]
    refine gOK.rd h rfl ?_
    refine ct_of (by decide +kernel) rfl (Nat.le_of_ble_eq_true rfl) rfl ?_
    refine go_aload_n (q := 1) (gDec iX11_restore_ok 0 rfl) rfl rfl rfl ?_
    refine go_aload_n (q := 2) (gDec iX11_restore_ok 1 rfl) rfl rfl rfl ?_
    refine go_geti (q := 5) fX11_273 (gDec iX11_restore_ok 2 rfl) rfl (by decide) rfl ?_
    refine go_top (v' := 0) (h.sr.1.trans h0) ?_
    refine go_if_eq (t := 12) (q := 8) (gDec iX11_restore_ok 3 rfl) (by decide) rfl (fun c5 => ?_) (fun c5 => False.elim (c5 rfl))
    refine go_iconst (v := nI 1) (q := 13) (gDec iX11_restore_ok 6 rfl) (by decide) rfl ?_
    refine go_puti (q := 16) fX11_54 gft11 (gDec iX11_restore_ok 7 rfl) rfl (by decide) rfl rfl rfl rfl ?_
    refine go_aload_n (q := 17) (gDec iX11_restore_ok 8 rfl) rfl rfl rfl ?_
    refine go_geti (q := 20) fX11_54 (gDec iX11_restore_ok 9 rfl) rfl (by decide) rfl ?_
    refine go_top (v' := nI 1) rfl ?_
    refine go_if_ne (t := 49) (q := 23) (gDec iX11_restore_ok 10 rfl) (by decide) rfl (fun c20 => ?_) (fun c20 => False.elim (absurd c20 (by decide)))
    exact go_return (gDec iX11_restore_ok 25 rfl) rfl rfl (congrArg (gPut σ 376 5) xc_S_S) (by decide)
  · rw [show fRestore τ = (.inl none, (gPut (gPut (gDc gLX1_copyFrom τ 1 36) 71 2 0) 363 6 0)) from if_neg (by rw [h0]; decide)]
    have hE : gEqL (gDg τ 36) (gPut (gPut (gDc gLX1_copyFrom τ 1 36) 71 2 0) 363 6 0) := ((gDc_eq (σ := τ) (o := 1) (o2 := 36) (by decide) (by decide)).tr (gDg_1 _)).tr (gEqL.of (fun k h1 h2 => by rw [gPut_ne _ _ _ (by omega), gPut_ne _ _ _ (by omega)]))
    have ho : ∀ k, (k = 0 ∨ 36 ≤ k) → k ≠ 71 → k ≠ 363 → (gPut (gPut (gDc gLX1_copyFrom τ 1 36) 71 2 0) 363 6 0).1 k = τ.1 k := fun k a1 a2 a3 => by
      rw [gPut_ne _ _ _ a3, gPut_ne _ _ _ a2]
      exact funext (fun i => gDc_out (by omega) i)
    have e71 : ∀ j, j ≠ 2 → (gPut (gPut (gDc gLX1_copyFrom τ 1 36) 71 2 0) 363 6 0).1 71 j = τ.1 71 j := fun j hj => by
      rw [gPut_ne _ _ _ (by decide), gPut_at, if_neg (by omega)]
      exact gDc_out (by omega) j
    have e712 : (gPut (gPut (gDc gLX1_copyFrom τ 1 36) 71 2 0) 363 6 0).1 71 2 = 0 := by rw [gPut_ne _ _ _ (by decide), gPut_at, if_pos ⟨rfl, rfl⟩]
    have e3636 : (gPut (gPut (gDc gLX1_copyFrom τ 1 36) 71 2 0) 363 6 0).1 363 6 = 0 := by rw [gPut_at, if_pos ⟨rfl, rfl⟩]
    refine ⟨(gPut (gPut (gSA (gPut σ 376 5 0).1 377 (va_cpy (σ.1 378) (σ.1 377) 0 0 2500), (gPut σ 376 5 0).2) 376 4 0) 376 9 0), ?_, ?_, ⟨fun k hk => ?_, rfl⟩, ?_⟩
    · refine ct_of (by decide +kernel) rfl (Nat.le_of_ble_eq_true rfl) rfl ?_
      refine go_aload_n (q := 1) (gDec iX11_restore_ok 0 rfl) rfl rfl rfl ?_
      refine go_aload_n (q := 2) (gDec iX11_restore_ok 1 rfl) rfl rfl rfl ?_
      refine go_geti (q := 5) fX11_273 (gDec iX11_restore_ok 2 rfl) rfl (by decide) rfl ?_
      refine go_top (v' := 1) (h.sr.1.trans h0) ?_
      refine go_if_eq (t := 12) (q := 8) (gDec iX11_restore_ok 3 rfl) (by decide) rfl (fun c5 => False.elim (absurd c5 (by decide))) (fun c5 => ?_)
      refine go_iconst (v := nI 0) (q := 9) (gDec iX11_restore_ok 4 rfl) (by decide) rfl ?_
      refine go_goto (t := 13) (gDec iX11_restore_ok 5 rfl) (by decide) ?_
      refine go_puti (q := 16) fX11_54 gft11 (gDec iX11_restore_ok 7 rfl) rfl (by decide) rfl rfl rfl rfl ?_
      refine go_aload_n (q := 17) (gDec iX11_restore_ok 8 rfl) rfl rfl rfl ?_
      refine go_geti (q := 20) fX11_54 (gDec iX11_restore_ok 9 rfl) rfl (by decide) rfl ?_
      refine go_top (v' := nI 0) rfl ?_
      refine go_if_ne (t := 49) (q := 23) (gDec iX11_restore_ok 10 rfl) (by decide) rfl (fun c20 => False.elim (c20 rfl)) (fun c20 => ?_)
      refine go_aload_n (q := 24) (gDec iX11_restore_ok 11 rfl) rfl rfl rfl ?_
      refine go_getr (r' := 378) (q := 27) fX11_13 (gDec iX11_restore_ok 12 rfl) rfl (by decide) rfl ?_
      refine go_iconst (v := nI 0) (q := 28) (gDec iX11_restore_ok 13 rfl) (by decide) rfl ?_
      refine go_aload_n (q := 29) (gDec iX11_restore_ok 14 rfl) rfl rfl rfl ?_
      refine go_getr (r' := 377) (q := 32) fX11_9 (gDec iX11_restore_ok 15 rfl) rfl (by decide) rfl ?_
      refine go_iconst (v := nI 0) (q := 33) (gDec iX11_restore_ok 16 rfl) (by decide) rfl ?_
      refine go_sipush (v := nI 2500) (q := 36) (gDec iX11_restore_ok 17 rfl) (by decide) rfl ?_
      refine go_copy (q := 39) kX11_79 (gDec iX11_restore_ok 18 rfl) rfl rfl (by decide) (by decide) (by decide) (by decide) (by decide) (by decide) (by decide) (Nat.le_of_ble_eq_true rfl) (gFit_rm (by decide) (by decide)) rfl ?_
      refine go_w (show _ = (gSA (gPut σ 376 5 0).1 377 (va_cpy (σ.1 378) (σ.1 377) 0 0 2500), (gPut σ 376 5 0).2) from (by rw [nI_clamp (by decide), nI_clamp (by decide)]; rfl)) ?_
      refine go_aload_n (q := 40) (gDec iX11_restore_ok 19 rfl) rfl rfl rfl ?_
      refine go_iconst (v := 0) (q := 41) (gDec iX11_restore_ok 20 rfl) (by decide) rfl ?_
      refine go_puti (q := 44) fX11_76 gft11 (gDec iX11_restore_ok 21 rfl) rfl (by decide) rfl rfl rfl rfl ?_
      refine go_aload_n (q := 45) (gDec iX11_restore_ok 22 rfl) rfl rfl rfl ?_
      refine go_iconst (v := 0) (q := 46) (gDec iX11_restore_ok 23 rfl) (by decide) rfl ?_
      refine go_puti (q := 49) fX11_200 gft11 (gDec iX11_restore_ok 24 rfl) rfl (by decide) rfl rfl rfl rfl ?_
      exact go_return (gDec iX11_restore_ok 25 rfl) rfl rfl rfl (by decide)
    · rw [gPut_at, if_neg (by omega), gPut_at, if_neg (by omega)]
      rfl
    · rw [gPut_ne _ _ _ (by omega), gPut_ne _ _ _ (by omega)]
      exact (gSA_ne _ _ (by omega)).trans (gPut_ne _ _ _ (by omega))
    · show gAll (gPut (gPut (gDc gLX1_copyFrom τ 1 36) 71 2 0) 363 6 0) _
      generalize hτ : (gPut (gPut (gDc gLX1_copyFrom τ 1 36) 71 2 0) 363 6 0) = τ' at *
      refine ⟨hE.ci q1, ⟨?_, ?_, ?_, ?_, ?_⟩, gMR.cs (hE.dw q1.dw) (fun i hi => ?_) (hE.mr q1.dw q2), ⟨?_, fun j hj => ?_⟩, ⟨?_, Or.inr ⟨?_, ?_, ?_⟩⟩, ⟨⟨?_, ?_⟩, ⟨?_, ?_⟩, ?_⟩⟩
      · unfold gHW; rw [e71 1 (by decide), e712]; exact ⟨h.cb.1.1, by decide⟩
      · unfold gTW; rw [ho 353 (by decide) (by decide) (by decide)]; exact h.cb.2.1
      · unfold gPW; rw [e3636, ho 365 (by decide) (by decide) (by decide)]; exact ⟨by decide, h.cb.2.2.1.2⟩
      · unfold gTl; rw [ho 353 (by decide) (by decide) (by decide), ho 355 (by decide) (by decide) (by decide)]; exact h.cb.2.2.2.1
      · unfold gPl_; rw [e3636]; intro i hi; exact absurd hi (Nat.not_lt_zero _)
      · show va_cpy (σ.1 378) (σ.1 377) 0 0 2500 i = _
        unfold va_cpy
        rw [if_pos (by omega), show 0 + (i - 0) = i by omega]
      · rw [e712, gPut_at, if_neg (by omega), gPut_at, if_pos ⟨rfl, rfl⟩]; rfl
      · rw [e712] at hj; exact absurd hj (Nat.not_lt_zero _)
      · rw [ho 0 (by decide) (by decide) (by decide)]; exact h.sr.1
      · rw [ho 0 (by decide) (by decide) (by decide)]; exact h0
      · have hE2 : gEqL (gDg τ 36) (gDg τ' 36) := gEqL.of (fun k h1 h2 => ho _ (by omega) (by omega) (by omega))
        exact hE2.ci q1
      · have hE2 : gEqL (gDg τ 36) (gDg τ' 36) := gEqL.of (fun k h1 h2 => ho _ (by omega) (by omega) (by omega))
        exact hE2.mr q1.dw q2
      · rw [ho 353 (by decide) (by decide) (by decide)]; exact h.br.1.1
      · unfold gTl; rw [ho 353 (by decide) (by decide) (by decide), ho 355 (by decide) (by decide) (by decide)]; exact h.br.1.2
      · rw [e3636, gPut_at, if_pos ⟨rfl, rfl⟩]
      · unfold gPl_; rw [e3636]; intro i hi; exact absurd hi (Nat.not_lt_zero _)
      · rw [ho 0 (by decide) (by decide) (by decide)]; exact h.br.2.2
