theorem gSetS_eq {τ : gST} (i : Nat) (a : Int32 × gST) : gSetS (gPut τ 363 7 (τ.1 1 4 + τ.1 1 5 + τ.1 1 4)) i a = (a.1 + pSO τ (pP τ i) (gPg τ (i + 1)), gPut (gPut a.2 367 i a.1) 369 i (a.1 + pWO τ (pP τ i))) := by
  have hD : gEqD τ (gPut τ 363 7 (τ.1 1 4 + τ.1 1 5 + τ.1 1 4)) := (gEqD.rf τ).put (by decide) _ _
  have e1 : oA ((gPut τ 363 7 (τ.1 1 4 + τ.1 1 5 + τ.1 1 4)).1 365 i) = pP τ i := rfl
  have e2 : gPg (gPut τ 363 7 (τ.1 1 4 + τ.1 1 5 + τ.1 1 4)) (i + 1) = gPg τ (i + 1) := rfl
  have e3 : (gPut τ 363 7 (τ.1 1 4 + τ.1 1 5 + τ.1 1 4)).1 1 5 = τ.1 1 5 := rfl
  have e4 : (gPut τ 363 7 (τ.1 1 4 + τ.1 1 5 + τ.1 1 4)).1 1 4 = τ.1 1 4 := rfl
  unfold gSetS
  rw [e1, e2, e3, e4, hD.adv, hD.kn]
  cases h1 : pP τ i with
  | none =>
    dsimp only [pSO, pWO, pKO]
    rw [Int32.add_zero, Int32.add_assoc]
  | some g =>
    cases h2 : gPg τ (i + 1) with
    | none =>
      dsimp only [pSO, pWO, pKO]
      rw [Int32.add_zero, Int32.add_assoc]
    | some h =>
      dsimp only [pSO, pWO, pKO]
      rw [Int32.add_assoc, Int32.add_assoc, Int32.add_assoc]
def pSetI (τ : gST) (i : Nat) (a : Int32 × gST) : Prop := (i < gPl_ τ → a.1 = pBg τ i) ∧ (∀ k, k ≠ 367 → k ≠ 369 → a.2.1 k = (gPut τ 363 7 (τ.1 1 4 + τ.1 1 5 + τ.1 1 4)).1 k) ∧ a.2.2 = τ.2 ∧ ∀ j, j < i → a.2.1 367 j = pBg τ j ∧ a.2.1 369 j = pBg τ j + pWO τ (pP τ j)
theorem pSetI_s {τ : gST} {i : Nat} {a : Int32 × gST} (hi : i < gPl_ τ) (h : pSetI τ i a) : pSetI τ (i + 1) (gSetS (gPut τ 363 7 (τ.1 1 4 + τ.1 1 5 + τ.1 1 4)) i a) := by
  rw [gSetS_eq]
  obtain ⟨h1, h2, h3, h4⟩ := h
  refine ⟨fun hl => ?_, fun k q1 q2 => ?_, h3, fun j hj => ?_⟩
  · have e : gPg τ (i + 1) = pP τ (i + 1) := if_pos hl
    show a.1 + _ = _
    rw [h1 hi, e, pBg_s]
  · exact (gPut_ne _ _ _ q2).trans ((gPut_ne _ _ _ q1).trans (h2 k q1 q2))
  · rw [gPut_ne _ _ _ (by decide), gPut_s, gPut_s, uN, uN, gPut_ne _ _ _ (by decide)]
    by_cases hji : j = i
    · rw [if_pos hji, if_pos hji, h1 hi, hji]; exact ⟨rfl, rfl⟩
    · rw [if_neg hji, if_neg hji]; exact h4 j (by omega)
theorem pSetI_l {τ : gST} : ∀ (m i : Nat) (a : Int32 × gST), i + m = gPl_ τ → pSetI τ i a → pSetI τ (gPl_ τ) (gLoop (gSetS (gPut τ 363 7 (τ.1 1 4 + τ.1 1 5 + τ.1 1 4))) i m a)
  | 0, i, a, hi, h => by
    have : i = gPl_ τ := by omega
    rw [← this]; exact h
  | m + 1, i, a, hi, h => pSetI_l m (i + 1) _ (by omega) (pSetI_s (by omega) h)
theorem gSet_k (τ : gST) : (∀ k, k ≠ 363 → k ≠ 367 → k ≠ 369 → (gSet τ).1 k = τ.1 k) ∧ (∀ j, j ≠ 7 → (gSet τ).1 363 j = τ.1 363 j) ∧ (gSet τ).1 363 7 = (τ.1 1 4 + τ.1 1 5 + τ.1 1 4) ∧ (gSet τ).2 = τ.2 ∧ ∀ i, i < gPl_ τ → (gSet τ).1 367 i = pBg τ i ∧ (gSet τ).1 369 i = pBg τ i + pWO τ (pP τ i) := by
  obtain ⟨-, h2, h3, h4⟩ := pSetI_l (τ := τ) (gPl_ τ) 0 (0, (gPut τ 363 7 (τ.1 1 4 + τ.1 1 5 + τ.1 1 4))) (by omega) ⟨fun _ => rfl, fun _ _ _ => rfl, rfl, fun j hj => absurd hj (Nat.not_lt_zero _)⟩
  refine ⟨fun k q1 q2 q3 => (h2 k q2 q3).trans (gPut_ne _ _ _ q1), fun j hj => ?_, ?_, h3, h4⟩
  · refine (congrFun (h2 363 (by decide) (by decide)) j).trans ?_
    rw [gPut_at, if_neg (by omega)]
  · refine (congrFun (h2 363 (by decide) (by decide)) 7).trans ?_
    rw [gPut_at, if_pos ⟨rfl, rfl⟩]
/-- only scratch of the proof's setting changes -/
theorem gAll.sc {τ τ' σ σ' : gST} (h : gAll τ σ) (h1 : ∀ k, k < 366 → k ≠ 363 → τ'.1 k = τ.1 k) (h2 : τ'.1 363 6 = τ.1 363 6) (s1 : ∀ k, k < 382 → k ≠ 376 → σ'.1 k = σ.1 k) (s2 : ∀ j, j ≠ 5 → j ≠ 13 → j ≠ 17 → σ'.1 376 j = σ.1 376 j) : gAll τ' σ' := by
  have e353 : τ'.1 353 = τ.1 353 := h1 353 (by decide) (by decide)
  have e355 : τ'.1 355 = τ.1 355 := h1 355 (by decide) (by decide)
  have e365 : τ'.1 365 = τ.1 365 := h1 365 (by decide) (by decide)
  have e0 : τ'.1 0 = τ.1 0 := h1 0 (by decide) (by decide)
  have et : gTl τ' = gTl τ := by unfold gTl; rw [e353]
  have ep : gPl_ τ' = gPl_ τ := by unfold gPl_; rw [h2]
  refine h.low (fun k q1 q2 => h1 k (by omega) (by omega)) (by rw [e0]) ?_ ?_ ?_ ?_ (s1 377 (by decide) (by decide)) (s1 378 (by decide) (by decide)) (s1 379 (by decide) (by decide)) (s2 2 (by decide) (by decide) (by decide)) (s2 4 (by decide) (by decide) (by decide)) ⟨⟨?_, ?_⟩, ⟨?_, ?_⟩, ?_⟩
  · unfold gTW; rw [e353]; exact h.cb.2.1
  · unfold gPW; rw [h2, e365]; exact h.cb.2.2.1
  · rw [et, e355]; exact h.cb.2.2.2.1
  · rw [ep, e365]; exact h.cb.2.2.2.2
  · rw [s2 7 (by decide) (by decide) (by decide), e353]; exact h.br.1.1
  · rw [et, e355, s1 380 (by decide) (by decide)]; exact h.br.1.2
  · rw [s2 9 (by decide) (by decide) (by decide), h2]; exact h.br.2.1.1
  · rw [ep, e365, s1 381 (by decide) (by decide)]; exact h.br.2.1.2
  · rw [s2 21 (by decide) (by decide) (by decide), e0]; exact h.br.2.2
theorem gOK.sc {κ : gK} {m : gM} {args : List Value} {σ τ σ' : gST} {o : gO} {l : List String} {f : gO × gST} (h : gAll τ σ) (hc : gCt κ m 9 args σ o σ' 0) (hx : σ'.1 376 5 = xC l f.1) (h1 : ∀ k, k < 366 → k ≠ 363 → f.2.1 k = τ.1 k) (h2 : f.2.1 363 6 = τ.1 363 6)
    (s1 : ∀ k, k ≠ 376 → (k < 382 ∨ 388 ≤ k) → σ'.1 k = σ.1 k) (s2 : ∀ j, j ≠ 5 → j ≠ 13 → j ≠ 17 → σ'.1 376 j = σ.1 376 j) (hs : σ'.2 = σ.2) : gOK κ m args σ o l f :=
  ⟨σ', hc, hx, ⟨fun k hk => s1 k (by omega) (by omega), hs⟩, h.sc h1 h2 (fun k q1 q2 => s1 k q2 (by omega)) s2⟩

set_option maxHeartbeats 4000000 in
set_option maxRecDepth 100000 in
theorem ok_proofWidth {κ : gK} {σ τ : gST} (h : gAll τ σ) : gOK κ mX11_proofWidth [.ref (κ.2.1 + 376)] σ (rI (aI (fProofWidth τ).1)) kN (fProofWidth τ) := by
  have hC := h.ci
  have hM := h.mr
  have h24 := hC.dw.ng24
  have h60 := h.cb.2.2.1.pl60
  have h9 := h.pn
  have hp := fun i => h.p9 (i := i)
  by_cases h1 : gPl_ τ = 0
  · rw [show fProofWidth τ = (xNSE, τ) from if_pos h1]
    refine gOK.rd h rfl ?_
    refine ct_of (by decide +kernel) rfl (Nat.le_of_ble_eq_true rfl) rfl ?_
    refine go_aload_n (q := 1) (gDec iX11_proofWidth_ok 0 rfl) rfl rfl rfl ?_
    refine go_aload_n (q := 2) (gDec iX11_proofWidth_ok 1 rfl) rfl rfl rfl ?_
    refine go_geti (q := 5) fX11_200 (gDec iX11_proofWidth_ok 2 rfl) rfl (by decide) rfl ?_
    refine go_top (v' := 0) (h9.trans (by rw [h1]; rfl)) ?_
    refine go_if_ne (t := 12) (q := 8) (gDec iX11_proofWidth_ok 3 rfl) (by decide) rfl (fun c5 => False.elim (c5 rfl)) (fun c5 => ?_)
    refine go_iconst (v := nI 1) (q := 9) (gDec iX11_proofWidth_ok 4 rfl) (by decide) rfl ?_
    refine go_goto (t := 13) (gDec iX11_proofWidth_ok 5 rfl) (by decide) ?_
    refine go_puti (q := 16) fX11_54 gft11 (gDec iX11_proofWidth_ok 7 rfl) rfl (by decide) rfl rfl rfl rfl ?_
    refine go_aload_n (q := 17) (gDec iX11_proofWidth_ok 8 rfl) rfl rfl rfl ?_
    refine go_geti (q := 20) fX11_54 (gDec iX11_proofWidth_ok 9 rfl) rfl (by decide) rfl ?_
    refine go_top (v' := nI 1) rfl ?_
    refine go_if_le (t := 27) (q := 23) (gDec iX11_proofWidth_ok 10 rfl) (by decide) rfl (fun c20 => False.elim (absurd c20 (by decide))) (fun c20 => ?_)
    refine go_iconst (v := nI 0) (q := 24) (gDec iX11_proofWidth_ok 11 rfl) (by decide) rfl ?_
    refine go_goto (t := 53) (gDec iX11_proofWidth_ok 12 rfl) (by decide) ?_
    exact go_ireturn (gDec iX11_proofWidth_ok 29 rfl) rfl rfl rfl (congrArg (gPut σ 376 5) xc_N_N) (by decide)
  · rw [show fProofWidth τ = (rI ((gSet τ).1 369 (gPl_ τ - 1)), gSet τ) from if_neg h1]
    obtain ⟨n, hn⟩ : ∃ n, gPl_ τ = n + 1 := ⟨gPl_ τ - 1, by omega⟩
    rw [((gSet_k τ).2.2.2.2 (gPl_ τ - 1) (by omega)).2]
    rw [hn, Nat.add_sub_cancel]
    rw [hn] at h9 hp
    refine gOK.sc (σ' := gPut σ 376 5 0) h ?_ rfl (fun k q1 q2 => (gSet_k τ).1 k q2 (by omega) (by omega)) ((gSet_k τ).2.1 6 (by decide)) (fun k q1 q2 => gPut_ne _ _ _ q1) (fun j q1 q2 q3 => by rw [gPut_at, if_neg (by omega)]) rfl
    refine ct_of (by decide +kernel) rfl (Nat.le_of_ble_eq_true rfl) rfl ?_
    refine go_aload_n (q := 1) (gDec iX11_proofWidth_ok 0 rfl) rfl rfl rfl ?_
    refine go_aload_n (q := 2) (gDec iX11_proofWidth_ok 1 rfl) rfl rfl rfl ?_
    refine go_geti (q := 5) fX11_200 (gDec iX11_proofWidth_ok 2 rfl) rfl (by decide) rfl ?_
    refine go_top (v' := nI (n + 1)) (h9) ?_
    refine go_if_ne (t := 12) (q := 8) (gDec iX11_proofWidth_ok 3 rfl) (by decide) rfl (fun c5 => ?_) (fun c5 => False.elim (nI_ne0 (n := n + 1) (by omega) (by omega) c5))
    refine go_iconst (v := nI 0) (q := 13) (gDec iX11_proofWidth_ok 6 rfl) (by decide) rfl ?_
    refine go_puti (q := 16) fX11_54 gft11 (gDec iX11_proofWidth_ok 7 rfl) rfl (by decide) rfl rfl rfl rfl ?_
    refine go_aload_n (q := 17) (gDec iX11_proofWidth_ok 8 rfl) rfl rfl rfl ?_
    refine go_geti (q := 20) fX11_54 (gDec iX11_proofWidth_ok 9 rfl) rfl (by decide) rfl ?_
    refine go_top (v' := nI 0) rfl ?_
    refine go_if_le (t := 27) (q := 23) (gDec iX11_proofWidth_ok 10 rfl) (by decide) rfl (fun c20 => ?_) (fun c20 => False.elim (c20 (by decide)))
    refine go_aload_n (q := 28) (gDec iX11_proofWidth_ok 13 rfl) rfl rfl rfl ?_
    refine go_aload_n (q := 29) (gDec iX11_proofWidth_ok 14 rfl) rfl rfl rfl ?_
    refine go_geti (q := 32) fX11_200 (gDec iX11_proofWidth_ok 15 rfl) rfl (by decide) rfl ?_
    refine go_top (v' := nI (n + 1)) (h9) ?_
    refine go_iconst (v := nI 1) (q := 33) (gDec iX11_proofWidth_ok 16 rfl) (by decide) rfl ?_
    refine go_isub (q := 34) (gDec iX11_proofWidth_ok 17 rfl) rfl ?_
    refine go_top (v' := nI n) (nI_pred n) ?_
    refine go_callV (n2 := 0) (q := 37) kX11_209 (ctX11_begins (τ := τ) (n := n) hC (gMRt hM) (by omega) (fun i hi => hp i (by omega))) (gDec iX11_proofWidth_ok 18 rfl) rfl rfl (by decide) rfl rfl rfl (Nat.le_of_ble_eq_true rfl) rfl (gFit_rm (by decide) (by decide)) rfl ?_
    refine go_aload_n (q := 38) (gDec iX11_proofWidth_ok 19 rfl) rfl rfl rfl ?_
    refine go_aload_n (q := 39) (gDec iX11_proofWidth_ok 20 rfl) rfl rfl rfl ?_
    refine go_getr (r' := 381) (q := 42) fX11_23 (gDec iX11_proofWidth_ok 21 rfl) rfl (by decide) rfl ?_
    refine go_aload_n (q := 43) (gDec iX11_proofWidth_ok 22 rfl) rfl rfl rfl ?_
    refine go_geti (q := 46) fX11_200 (gDec iX11_proofWidth_ok 23 rfl) rfl (by decide) rfl ?_
    refine go_top (v' := nI (n + 1)) (h9) ?_
    refine go_iconst (v := nI 1) (q := 47) (gDec iX11_proofWidth_ok 24 rfl) (by decide) rfl ?_
    refine go_isub (q := 48) (gDec iX11_proofWidth_ok 25 rfl) rfl ?_
    refine go_top (v' := nI n) (nI_pred n) ?_
    refine go_ialdN (q := 49) (gDec iX11_proofWidth_ok 26 rfl) rfl (by decide) (by omega) (by decide) rfl ?_
    refine go_top (v' := lI (pP τ n)) ((hp n (by omega)).1) ?_
    refine go_callV (n2 := 0) (q := 52) kX11_203 (ctX11_widthOf (τ := τ) (a := pP τ n) hC (gMRt hM) (hp n (by omega)).2) (gDec iX11_proofWidth_ok 27 rfl) rfl rfl (by decide) rfl rfl rfl (Nat.le_of_ble_eq_true rfl) rfl (gFit_rm (by decide) (by decide)) rfl ?_
    refine go_iadd (q := 53) (gDec iX11_proofWidth_ok 28 rfl) rfl ?_
    exact go_ireturn (gDec iX11_proofWidth_ok 29 rfl) rfl rfl rfl rfl (by decide)

set_option maxHeartbeats 4000000 in
set_option maxRecDepth 100000 in
theorem ok_position {κ : gK} {σ τ : gST} {i : Int32} (h : gAll τ σ) : gOK κ mX11_position [.ref (κ.2.1 + 376), .int i] σ (rI (aI (fPosition τ i).1)) kN (fPosition τ i) := by
  have hC := h.ci
  have hM := h.mr
  have h24 := hC.dw.ng24
  have h60 := h.cb.2.2.1.pl60
  have h9 := h.pn
  have hp := fun i => h.p9 (i := i)
  by_cases h1 : 0 ≤ i.toInt ∧ i.toInt ≤ (gPl_ τ : Int) - 1
  · rw [show fPosition τ i = (rI ((gSet τ).1 367 (nA i)), gSet τ) from if_pos h1]
    obtain ⟨n, hn, rfl⟩ := gIn_ex h1
    rw [nA_nI (n := n) (by omega), ((gSet_k τ).2.2.2.2 n hn).1]
    refine gOK.sc (σ' := gPut σ 376 5 0) h ?_ rfl (fun k q1 q2 => (gSet_k τ).1 k q2 (by omega) (by omega)) ((gSet_k τ).2.1 6 (by decide)) (fun k q1 q2 => gPut_ne _ _ _ q1) (fun j q1 q2 q3 => by rw [gPut_at, if_neg (by omega)]) rfl
    refine ct_of (by decide +kernel) rfl (Nat.le_of_ble_eq_true rfl) rfl ?_
    refine go_aload_n (q := 1) (gDec iX11_position_ok 0 rfl) rfl rfl rfl ?_
    refine go_iload_n (q := 2) (gDec iX11_position_ok 1 rfl) rfl rfl rfl ?_
    refine go_i2l (q := 3) (gDec iX11_position_ok 2 rfl) rfl ?_
    refine go_iconst (v := nI 0) (q := 4) (gDec iX11_position_ok 3 rfl) (by decide) rfl ?_
    refine go_aload_n (q := 5) (gDec iX11_position_ok 4 rfl) rfl rfl rfl ?_
    refine go_geti (q := 8) fX11_200 (gDec iX11_position_ok 5 rfl) rfl (by decide) rfl ?_
    refine go_top (v' := nI (gPl_ τ)) (h9) ?_
    refine go_iconst (v := 1) (q := 9) (gDec iX11_position_ok 6 rfl) (by decide) rfl ?_
    refine go_isub (q := 10) (gDec iX11_position_ok 7 rfl) rfl ?_
    refine go_callS (n2 := 0) (q := 13) kX11_57 ctX11_in (gDec iX11_position_ok 8 rfl) rfl rfl (Nat.le_of_ble_eq_true rfl) rfl (gFit_rm (by decide) (by decide)) rfl ?_
    refine go_top (v' := 1) (gWi_t (by rw [i2l_toInt, nI_pm (by omega)]; exact h1)) ?_
    refine go_if_eq (t := 20) (q := 16) (gDec iX11_position_ok 9 rfl) (by decide) rfl (fun c13 => False.elim (absurd c13 (by decide))) (fun c13 => ?_)
    refine go_iconst (v := nI 0) (q := 17) (gDec iX11_position_ok 10 rfl) (by decide) rfl ?_
    refine go_goto (t := 21) (gDec iX11_position_ok 11 rfl) (by decide) ?_
    refine go_puti (q := 24) fX11_54 gft11 (gDec iX11_position_ok 13 rfl) rfl (by decide) rfl rfl rfl rfl ?_
    refine go_aload_n (q := 25) (gDec iX11_position_ok 14 rfl) rfl rfl rfl ?_
    refine go_geti (q := 28) fX11_54 (gDec iX11_position_ok 15 rfl) rfl (by decide) rfl ?_
    refine go_top (v' := nI 0) rfl ?_
    refine go_if_le (t := 35) (q := 31) (gDec iX11_position_ok 16 rfl) (by decide) rfl (fun c28 => ?_) (fun c28 => False.elim (c28 (by decide)))
    refine go_aload_n (q := 36) (gDec iX11_position_ok 19 rfl) rfl rfl rfl ?_
    refine go_iload_n (q := 37) (gDec iX11_position_ok 20 rfl) rfl rfl rfl ?_
    refine go_callV (n2 := 0) (q := 40) kX11_209 (ctX11_begins (τ := τ) (n := n) hC (gMRt hM) (by omega) (fun i hi => hp i (by omega))) (gDec iX11_position_ok 21 rfl) rfl rfl (by decide) rfl rfl rfl (Nat.le_of_ble_eq_true rfl) rfl (gFit_rm (by decide) (by decide)) rfl ?_
    exact go_ireturn (gDec iX11_position_ok 22 rfl) rfl rfl rfl rfl (by decide)
  · rw [show fPosition τ i = (xNSE, τ) from if_neg h1]
    refine gOK.rd h rfl ?_
    refine ct_of (by decide +kernel) rfl (Nat.le_of_ble_eq_true rfl) rfl ?_
    refine go_aload_n (q := 1) (gDec iX11_position_ok 0 rfl) rfl rfl rfl ?_
    refine go_iload_n (q := 2) (gDec iX11_position_ok 1 rfl) rfl rfl rfl ?_
    refine go_i2l (q := 3) (gDec iX11_position_ok 2 rfl) rfl ?_
    refine go_iconst (v := nI 0) (q := 4) (gDec iX11_position_ok 3 rfl) (by decide) rfl ?_
    refine go_aload_n (q := 5) (gDec iX11_position_ok 4 rfl) rfl rfl rfl ?_
    refine go_geti (q := 8) fX11_200 (gDec iX11_position_ok 5 rfl) rfl (by decide) rfl ?_
    refine go_top (v' := nI (gPl_ τ)) (h9) ?_
    refine go_iconst (v := 1) (q := 9) (gDec iX11_position_ok 6 rfl) (by decide) rfl ?_
    refine go_isub (q := 10) (gDec iX11_position_ok 7 rfl) rfl ?_
    refine go_callS (n2 := 0) (q := 13) kX11_57 ctX11_in (gDec iX11_position_ok 8 rfl) rfl rfl (Nat.le_of_ble_eq_true rfl) rfl (gFit_rm (by decide) (by decide)) rfl ?_
    refine go_top (v' := 0) (gWi_f (by rw [i2l_toInt, nI_pm (by omega)]; exact h1)) ?_
    refine go_if_eq (t := 20) (q := 16) (gDec iX11_position_ok 9 rfl) (by decide) rfl (fun c13 => ?_) (fun c13 => False.elim (c13 rfl))
    refine go_iconst (v := nI 1) (q := 21) (gDec iX11_position_ok 12 rfl) (by decide) rfl ?_
    refine go_puti (q := 24) fX11_54 gft11 (gDec iX11_position_ok 13 rfl) rfl (by decide) rfl rfl rfl rfl ?_
    refine go_aload_n (q := 25) (gDec iX11_position_ok 14 rfl) rfl rfl rfl ?_
    refine go_geti (q := 28) fX11_54 (gDec iX11_position_ok 15 rfl) rfl (by decide) rfl ?_
    refine go_top (v' := nI 1) rfl ?_
    refine go_if_le (t := 35) (q := 31) (gDec iX11_position_ok 16 rfl) (by decide) rfl (fun c28 => False.elim (absurd c28 (by decide))) (fun c28 => ?_)
    refine go_iconst (v := nI 0) (q := 32) (gDec iX11_position_ok 17 rfl) (by decide) rfl ?_
    refine go_goto (t := 40) (gDec iX11_position_ok 18 rfl) (by decide) ?_
    exact go_ireturn (gDec iX11_position_ok 22 rfl) rfl rfl rfl (congrArg (gPut σ 376 5) xc_N_N) (by decide)
