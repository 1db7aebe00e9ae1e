theorem mB_k {τ b : gST} {me : Int32} (h60 : gPl_ τ ≤ 60) : (∀ k, k ≠ 376 → k < 382 ∨ 388 ≤ k → (mBr τ me b).1 k = b.1 k) ∧ (∀ j, j ≠ 17 → (mBr τ me b).1 376 j = b.1 376 j) ∧ (mBr τ me b).2 = b.2 ∧ (mBr τ me b).1 382 = b.1 382 ∧ (mBr τ me b).1 384 = b.1 384 := by
  have hk := (pW_I τ (gPl_ τ)).1
  have h := mBI_l (τ := τ) (b := b) (me := me) (pW τ (gPl_ τ)).1 0 (gPut b 376 17 0) (by omega) (mBI_0 b)
  obtain ⟨h1, h2, h3, -⟩ := h
  exact ⟨fun k q1 q2 => h1 k q1 (by omega) (by omega) (by omega), h2, h3, h1 382 (by decide) (by decide) (by decide) (by decide), h1 384 (by decide) (by decide) (by decide) (by decide)⟩
theorem mF_k (τ b : gST) : (∀ k, k ≠ 376 → k < 382 ∨ 388 ≤ k → (mFind τ b).1 k = b.1 k) ∧ (∀ j, j ≠ 13 → (mFind τ b).1 376 j = b.1 376 j) ∧ (mFind τ b).2 = b.2 := by
  obtain ⟨-, -, h3, h4, h5⟩ := mFind_R τ b
  exact ⟨fun k q1 q2 => h3 k q1 (by omega) (by omega) (by omega), h4, h5⟩
theorem gBr_k (τ : gST) (me : Int32) : (∀ k, k < 366 → k ≠ 363 → (gBr (gSet τ) me).1 k = τ.1 k) ∧ (gBr (gSet τ) me).1 363 6 = τ.1 363 6 :=
  ⟨fun k q1 q2 => ((gBr_A (gSet τ) me).1 k (by omega) (by omega) (by omega) q2).trans ((gSet_k τ).1 k q2 (by omega) (by omega)), ((gBr_A (gSet τ) me).2.1 6 (by decide) (by decide)).trans ((gSet_k τ).2.1 6 (by decide))⟩

set_option maxHeartbeats 4000000 in
set_option maxRecDepth 100000 in
theorem ok_lines {κ : gK} {σ τ : gST} {m : Int32} (h : gAll τ σ) : gOK κ mX11_lines [.ref (κ.2.1 + 376), .int m] σ (rI (aI (fLines τ m).1)) kA (fLines τ m) := by
  have hC := h.ci
  have hM := h.mr
  have h24 := hC.dw.ng24
  have h60 := h.cb.2.2.1.pl60
  have h9 := h.pn
  have hp := fun i => h.p9 (i := i)
  have hk := (pW_I τ (gPl_ τ)).1
  by_cases h1 : 1 ≤ m.toInt ∧ m.toInt ≤ 100000
  · rw [show fLines τ m = (rI ((gBr (gSet τ) m).1 363 8), gBr (gSet τ) m) from if_pos h1]
    obtain ⟨-, n, hn1, -, hn2, hn3, -⟩ := pLR_f (pSt_set τ) h60 m (mFind τ (gPut σ 376 5 0))
    obtain ⟨b1, b2, b3, -, -⟩ := mB_k (τ := τ) (b := (mFind τ (gPut σ 376 5 0))) (me := m) h60
    obtain ⟨f1, f2, f3⟩ := mF_k τ (gPut σ 376 5 0)
    refine gOK.sc (σ' := (mBr τ m (mFind τ (gPut σ 376 5 0)))) h ?_ ?_ (gBr_k τ m).1 (gBr_k τ m).2 (fun k q1 q2 => (b1 k q1 q2).trans ((f1 k q1 q2).trans (gPut_ne _ _ _ q1))) (fun j q1 q2 q3 => (b2 j q3).trans ((f2 j q2).trans (by rw [gPut_at, if_neg (by omega)]))) (b3.trans f3)
    · refine ct_of (by decide +kernel) rfl (Nat.le_of_ble_eq_true rfl) rfl ?_
      refine go_aload_n (q := 1) (gDec iX11_lines_ok 0 rfl) rfl rfl rfl ?_
      refine go_iload_n (q := 2) (gDec iX11_lines_ok 1 rfl) rfl rfl rfl ?_
      refine go_callS (n2 := 0) (q := 5) kX11_222 ctX11_isMeasure (gDec iX11_lines_ok 2 rfl) rfl rfl (Nat.le_of_ble_eq_true rfl) rfl (gFit_rm (by decide) (by decide)) rfl ?_
      refine go_top (v' := 1) (gWi_t (by (try rw [i2l_toInt]); exact h1)) ?_
      refine go_if_eq (t := 12) (q := 8) (gDec iX11_lines_ok 3 rfl) (by decide) rfl (fun c5 => False.elim (absurd c5 (by decide))) (fun c5 => ?_)
      refine go_iconst (v := nI 0) (q := 9) (gDec iX11_lines_ok 4 rfl) (by decide) rfl ?_
      refine go_goto (t := 13) (gDec iX11_lines_ok 5 rfl) (by decide) ?_
      refine go_puti (q := 16) fX11_54 gft11 (gDec iX11_lines_ok 7 rfl) rfl (by decide) rfl rfl rfl rfl ?_
      refine go_aload_n (q := 17) (gDec iX11_lines_ok 8 rfl) rfl rfl rfl ?_
      refine go_geti (q := 20) fX11_54 (gDec iX11_lines_ok 9 rfl) rfl (by decide) rfl ?_
      refine go_top (v' := nI 0) rfl ?_
      refine go_if_le (t := 25) (q := 23) (gDec iX11_lines_ok 10 rfl) (by decide) rfl (fun c20 => ?_) (fun c20 => False.elim (c20 (by decide)))
      refine go_aload_n (q := 26) (gDec iX11_lines_ok 13 rfl) rfl rfl rfl ?_
      refine go_callV (n2 := 0) (q := 29) kX11_225 (ctX11_findWords (σ := (gPut σ 376 5 0)) (τ := τ) hC hM h9 h60 hp) (gDec iX11_lines_ok 14 rfl) rfl rfl (by decide) rfl rfl rfl (Nat.le_of_ble_eq_true rfl) rfl (gFit_rm (by decide) (by decide)) rfl ?_
      refine go_aload_n (q := 30) (gDec iX11_lines_ok 15 rfl) rfl rfl rfl ?_
      refine go_iload_n (q := 31) (gDec iX11_lines_ok 16 rfl) rfl rfl rfl ?_
      refine go_callV (n2 := 0) (q := 34) kX11_228 (ctX11_breakLines (σ := (mFind τ (gPut σ 376 5 0))) (τ := τ) (by rw [(mF_k τ (gPut σ 376 5 0)).1 377 (by decide) (by decide)]; exact hM) (mFind_R τ (gPut σ 376 5 0)).1 h60 (fun w hw => ((mFind_R τ (gPut σ 376 5 0)).2.1 w hw).2)) (gDec iX11_lines_ok 17 rfl) rfl rfl (by decide) rfl rfl rfl (Nat.le_of_ble_eq_true rfl) rfl (gFit_rm (by decide) (by decide)) rfl ?_
      refine go_aload_n (q := 35) (gDec iX11_lines_ok 18 rfl) rfl rfl rfl ?_
      refine go_geti (q := 38) fX11_215 (gDec iX11_lines_ok 19 rfl) rfl (by decide) rfl ?_
      refine go_top (v' := (gBr (gSet τ) m).1 363 8) (hn3.trans hn2.symm) ?_
      exact go_ireturn (gDec iX11_lines_ok 20 rfl) rfl rfl rfl rfl (by decide)
    · rw [b2 5 (by decide), f2 5 (by decide), gPut_at, if_pos ⟨rfl, rfl⟩]; rfl
  · rw [show fLines τ m = (xIAE, τ) from if_neg h1]
    refine gOK.rd h rfl ?_
    refine ct_of (by decide +kernel) rfl (Nat.le_of_ble_eq_true rfl) rfl ?_
    refine go_aload_n (q := 1) (gDec iX11_lines_ok 0 rfl) rfl rfl rfl ?_
    refine go_iload_n (q := 2) (gDec iX11_lines_ok 1 rfl) rfl rfl rfl ?_
    refine go_callS (n2 := 0) (q := 5) kX11_222 ctX11_isMeasure (gDec iX11_lines_ok 2 rfl) rfl rfl (Nat.le_of_ble_eq_true rfl) rfl (gFit_rm (by decide) (by decide)) rfl ?_
    refine go_top (v' := 0) (gWi_f (by (try rw [i2l_toInt]); exact h1)) ?_
    refine go_if_eq (t := 12) (q := 8) (gDec iX11_lines_ok 3 rfl) (by decide) rfl (fun c5 => ?_) (fun c5 => False.elim (c5 rfl))
    refine go_iconst (v := nI 1) (q := 13) (gDec iX11_lines_ok 6 rfl) (by decide) rfl ?_
    refine go_puti (q := 16) fX11_54 gft11 (gDec iX11_lines_ok 7 rfl) rfl (by decide) rfl rfl rfl rfl ?_
    refine go_aload_n (q := 17) (gDec iX11_lines_ok 8 rfl) rfl rfl rfl ?_
    refine go_geti (q := 20) fX11_54 (gDec iX11_lines_ok 9 rfl) rfl (by decide) rfl ?_
    refine go_top (v' := nI 1) rfl ?_
    refine go_if_le (t := 25) (q := 23) (gDec iX11_lines_ok 10 rfl) (by decide) rfl (fun c20 => False.elim (absurd c20 (by decide))) (fun c20 => ?_)
    refine go_iconst (v := nI 0) (q := 24) (gDec iX11_lines_ok 11 rfl) (by decide) rfl ?_
    exact go_ireturn (gDec iX11_lines_ok 12 rfl) rfl rfl rfl (congrArg (gPut σ 376 5) xc_A_A) (by decide)

set_option maxHeartbeats 4000000 in
set_option maxRecDepth 100000 in
theorem ok_line {κ : gK} {σ τ : gST} {m i w : Int32} (h : gAll τ σ) : gOK κ mX11_line [.ref (κ.2.1 + 376), .int m, .int i, .int w] σ (rI (aI (fLine τ m i w).1)) kAN (fLine τ m i w) := by
  have hC := h.ci
  have hM := h.mr
  have h24 := hC.dw.ng24
  have h60 := h.cb.2.2.1.pl60
  have h9 := h.pn
  have hp := fun i => h.p9 (i := i)
  have hk := (pW_I τ (gPl_ τ)).1
  by_cases h1 : (1 ≤ m.toInt ∧ m.toInt ≤ 100000) ∧ (0 ≤ w.toInt ∧ w.toInt ≤ 2)
  · obtain ⟨-, n, hn1, -, hn2, hn3, hn4⟩ := pLR_f (pSt_set τ) h60 m (mFind τ (gPut σ 376 5 0))
    obtain ⟨b1, b2, b3, b4, -⟩ := mB_k (τ := τ) (b := (mFind τ (gPut σ 376 5 0))) (me := m) h60
    obtain ⟨f1, f2, f3⟩ := mF_k τ (gPut σ 376 5 0)
    have hs1 : ∀ v k, k ≠ 376 → k < 382 ∨ 388 ≤ k → (gPut (mBr τ m (mFind τ (gPut σ 376 5 0))) 376 5 v).1 k = σ.1 k := fun v k q1 q2 => (gPut_ne _ _ _ q1).trans ((b1 k q1 q2).trans ((f1 k q1 q2).trans (gPut_ne _ _ _ q1)))
    have hs2 : ∀ v j, j ≠ 5 → j ≠ 13 → j ≠ 17 → (gPut (mBr τ m (mFind τ (gPut σ 376 5 0))) 376 5 v).1 376 j = σ.1 376 j := fun v j q1 q2 q3 => by
      rw [gPut_at, if_neg (by omega)]
      exact (b2 j q3).trans ((f2 j q2).trans (by rw [gPut_at, if_neg (by omega)]))
    have hs3 : ∀ v, (gPut (mBr τ m (mFind τ (gPut σ 376 5 0))) 376 5 v).2 = σ.2 := fun v => b3.trans f3
    have hna : nA ((gLn τ m).1 363 8) = n := by rw [show (gLn τ m).1 363 8 = nI n from hn2]; exact nA_nI (by omega)
    by_cases h2 : 0 ≤ i.toInt ∧ i.toInt ≤ (n : Int) - 1
    · rw [show fLine τ m i w = (rI (if w = 0 then (gLn τ m).1 371 (nA i) else if w = 1 then (gLn τ m).1 373 (nA i) else (gLn τ m).1 375 (nA i)), gLn τ m) from (if_pos h1).trans (if_pos (by rw [hna]; exact h2))]
      obtain ⟨j, hj, rfl⟩ := gIn_ex h2
      rw [nA_nI (n := j) (by omega)]
      obtain ⟨e1, e2, x, hx, e3, e4⟩ := hn4 j hj
      have e4 : (mBr τ m (mFind τ (gPut σ 376 5 0))).1 382 x = (gLn τ m).1 373 j := by
        rw [b4, ((mFind_R τ (gPut σ 376 5 0)).2.1 x hx).1]
        exact e4.symm
      refine gOK.sc (σ' := gPut (mBr τ m (mFind τ (gPut σ 376 5 0))) 376 5 0) h ?_ rfl (gBr_k τ m).1 (gBr_k τ m).2 (hs1 _) (hs2 _) (hs3 _)
      refine ct_of (by decide +kernel) rfl (Nat.le_of_ble_eq_true rfl) rfl ?_
      by_cases w0 : w = 0
      · rw [if_pos w0]
        refine go_aload_n (q := 1) (gDec iX11_line_ok 0 rfl) rfl rfl rfl ?_
        refine go_iload_n (q := 2) (gDec iX11_line_ok 1 rfl) rfl rfl rfl ?_
        refine go_callS (n2 := 0) (q := 5) kX11_222 ctX11_isMeasure (gDec iX11_line_ok 2 rfl) rfl rfl (Nat.le_of_ble_eq_true rfl) rfl (gFit_rm (by decide) (by decide)) rfl ?_
        refine go_top (v' := 1) (gWi_t (by (try rw [i2l_toInt]); exact h1.1)) ?_
        refine go_if_eq (t := 18) (q := 8) (gDec iX11_line_ok 3 rfl) (by decide) rfl (fun c5 => False.elim (absurd c5 (by decide))) (fun c5 => ?_)
        refine go_iload_n (q := 9) (gDec iX11_line_ok 4 rfl) rfl rfl rfl ?_
        refine go_i2l (q := 10) (gDec iX11_line_ok 5 rfl) rfl ?_
        refine go_iconst (v := nI 0) (q := 11) (gDec iX11_line_ok 6 rfl) (by decide) rfl ?_
        refine go_iconst (v := nI 2) (q := 12) (gDec iX11_line_ok 7 rfl) (by decide) rfl ?_
        refine go_callS (n2 := 0) (q := 15) kX11_57 ctX11_in (gDec iX11_line_ok 8 rfl) rfl rfl (Nat.le_of_ble_eq_true rfl) rfl (gFit_rm (by decide) (by decide)) rfl ?_
        refine go_top (v' := 1) (gWi_t (by (try rw [i2l_toInt]); exact h1.2)) ?_
        refine go_if_ne (t := 22) (q := 18) (gDec iX11_line_ok 9 rfl) (by decide) rfl (fun c15 => ?_) (fun c15 => False.elim (absurd c15 (by decide)))
        refine go_iconst (v := nI 0) (q := 23) (gDec iX11_line_ok 12 rfl) (by decide) rfl ?_
        refine go_puti (q := 26) fX11_54 gft11 (gDec iX11_line_ok 13 rfl) rfl (by decide) rfl rfl rfl rfl ?_
        refine go_aload_n (q := 27) (gDec iX11_line_ok 14 rfl) rfl rfl rfl ?_
        refine go_geti (q := 30) fX11_54 (gDec iX11_line_ok 15 rfl) rfl (by decide) rfl ?_
        refine go_top (v' := nI 0) rfl ?_
        refine go_if_le (t := 35) (q := 33) (gDec iX11_line_ok 16 rfl) (by decide) rfl (fun c30 => ?_) (fun c30 => False.elim (c30 (by decide)))
        refine go_aload_n (q := 36) (gDec iX11_line_ok 19 rfl) rfl rfl rfl ?_
        refine go_callV (n2 := 0) (q := 39) kX11_225 (ctX11_findWords (σ := (gPut σ 376 5 0)) (τ := τ) hC hM h9 h60 hp) (gDec iX11_line_ok 20 rfl) rfl rfl (by decide) rfl rfl rfl (Nat.le_of_ble_eq_true rfl) rfl (gFit_rm (by decide) (by decide)) rfl ?_
        refine go_aload_n (q := 40) (gDec iX11_line_ok 21 rfl) rfl rfl rfl ?_
        refine go_iload_n (q := 41) (gDec iX11_line_ok 22 rfl) rfl rfl rfl ?_
        refine go_callV (n2 := 0) (q := 44) kX11_228 (ctX11_breakLines (σ := (mFind τ (gPut σ 376 5 0))) (τ := τ) (by rw [(mF_k τ (gPut σ 376 5 0)).1 377 (by decide) (by decide)]; exact hM) (mFind_R τ (gPut σ 376 5 0)).1 h60 (fun w hw => ((mFind_R τ (gPut σ 376 5 0)).2.1 w hw).2)) (gDec iX11_line_ok 23 rfl) rfl rfl (by decide) rfl rfl rfl (Nat.le_of_ble_eq_true rfl) rfl (gFit_rm (by decide) (by decide)) rfl ?_
        refine go_aload_n (q := 45) (gDec iX11_line_ok 24 rfl) rfl rfl rfl ?_
        refine go_iload_n (q := 46) (gDec iX11_line_ok 25 rfl) rfl rfl rfl ?_
        refine go_i2l (q := 47) (gDec iX11_line_ok 26 rfl) rfl ?_
        refine go_iconst (v := nI 0) (q := 48) (gDec iX11_line_ok 27 rfl) (by decide) rfl ?_
        refine go_aload_n (q := 49) (gDec iX11_line_ok 28 rfl) rfl rfl rfl ?_
        refine go_geti (q := 52) fX11_215 (gDec iX11_line_ok 29 rfl) rfl (by decide) rfl ?_
        refine go_top (v' := nI n) (hn3) ?_
        refine go_iconst (v := 1) (q := 53) (gDec iX11_line_ok 30 rfl) (by decide) rfl ?_
        refine go_isub (q := 54) (gDec iX11_line_ok 31 rfl) rfl ?_
        refine go_callS (n2 := 0) (q := 57) kX11_57 ctX11_in (gDec iX11_line_ok 32 rfl) rfl rfl (Nat.le_of_ble_eq_true rfl) rfl (gFit_rm (by decide) (by decide)) rfl ?_
        refine go_top (v' := 1) (gWi_t (by rw [i2l_toInt, nI_pm (by omega)]; exact h2)) ?_
        refine go_if_eq (t := 64) (q := 60) (gDec iX11_line_ok 33 rfl) (by decide) rfl (fun c57 => False.elim (absurd c57 (by decide))) (fun c57 => ?_)
        refine go_iconst (v := nI 0) (q := 61) (gDec iX11_line_ok 34 rfl) (by decide) rfl ?_
        refine go_goto (t := 65) (gDec iX11_line_ok 35 rfl) (by decide) ?_
        refine go_puti (q := 68) fX11_54 gft11 (gDec iX11_line_ok 37 rfl) rfl (by decide) rfl rfl rfl rfl ?_
        refine go_aload_n (q := 69) (gDec iX11_line_ok 38 rfl) rfl rfl rfl ?_
        refine go_geti (q := 72) fX11_54 (gDec iX11_line_ok 39 rfl) rfl (by decide) rfl ?_
        refine go_top (v' := nI 0) rfl ?_
        refine go_if_le (t := 77) (q := 75) (gDec iX11_line_ok 40 rfl) (by decide) rfl (fun c72 => ?_) (fun c72 => False.elim (c72 (by decide)))
        refine go_iload_n (q := 78) (gDec iX11_line_ok 43 rfl) rfl rfl rfl ?_
        refine go_if_ne (t := 90) (q := 81) (gDec iX11_line_ok 44 rfl) (by decide) rfl (fun c78 => False.elim (c78 w0)) (fun c78 => ?_)
        refine go_aload_n (q := 82) (gDec iX11_line_ok 45 rfl) rfl rfl rfl ?_
        refine go_getr (r' := 387) (q := 85) fX11_41 (gDec iX11_line_ok 46 rfl) rfl (by decide) rfl ?_
        refine go_iload_n (q := 86) (gDec iX11_line_ok 47 rfl) rfl rfl rfl ?_
        refine go_ialdN (q := 87) (gDec iX11_line_ok 48 rfl) rfl (by decide) (by omega) (by decide) rfl ?_
        refine go_top (v' := (gLn τ m).1 371 j) (e1) ?_
        refine go_goto (t := 115) (gDec iX11_line_ok 49 rfl) (by decide) ?_
        exact go_ireturn (gDec iX11_line_ok 65 rfl) rfl rfl rfl rfl (by decide)
      · rw [if_neg w0]
        by_cases w1 : w = 1
        · rw [if_pos w1]
          refine go_aload_n (q := 1) (gDec iX11_line_ok 0 rfl) rfl rfl rfl ?_
          refine go_iload_n (q := 2) (gDec iX11_line_ok 1 rfl) rfl rfl rfl ?_
          refine go_callS (n2 := 0) (q := 5) kX11_222 ctX11_isMeasure (gDec iX11_line_ok 2 rfl) rfl rfl (Nat.le_of_ble_eq_true rfl) rfl (gFit_rm (by decide) (by decide)) rfl ?_
          refine go_top (v' := 1) (gWi_t (by (try rw [i2l_toInt]); exact h1.1)) ?_
          refine go_if_eq (t := 18) (q := 8) (gDec iX11_line_ok 3 rfl) (by decide) rfl (fun c5 => False.elim (absurd c5 (by decide))) (fun c5 => ?_)
          refine go_iload_n (q := 9) (gDec iX11_line_ok 4 rfl) rfl rfl rfl ?_
          refine go_i2l (q := 10) (gDec iX11_line_ok 5 rfl) rfl ?_
          refine go_iconst (v := nI 0) (q := 11) (gDec iX11_line_ok 6 rfl) (by decide) rfl ?_
          refine go_iconst (v := nI 2) (q := 12) (gDec iX11_line_ok 7 rfl) (by decide) rfl ?_
          refine go_callS (n2 := 0) (q := 15) kX11_57 ctX11_in (gDec iX11_line_ok 8 rfl) rfl rfl (Nat.le_of_ble_eq_true rfl) rfl (gFit_rm (by decide) (by decide)) rfl ?_
          refine go_top (v' := 1) (gWi_t (by (try rw [i2l_toInt]); exact h1.2)) ?_
          refine go_if_ne (t := 22) (q := 18) (gDec iX11_line_ok 9 rfl) (by decide) rfl (fun c15 => ?_) (fun c15 => False.elim (absurd c15 (by decide)))
          refine go_iconst (v := nI 0) (q := 23) (gDec iX11_line_ok 12 rfl) (by decide) rfl ?_
          refine go_puti (q := 26) fX11_54 gft11 (gDec iX11_line_ok 13 rfl) rfl (by decide) rfl rfl rfl rfl ?_
          refine go_aload_n (q := 27) (gDec iX11_line_ok 14 rfl) rfl rfl rfl ?_
          refine go_geti (q := 30) fX11_54 (gDec iX11_line_ok 15 rfl) rfl (by decide) rfl ?_
          refine go_top (v' := nI 0) rfl ?_
          refine go_if_le (t := 35) (q := 33) (gDec iX11_line_ok 16 rfl) (by decide) rfl (fun c30 => ?_) (fun c30 => False.elim (c30 (by decide)))
          refine go_aload_n (q := 36) (gDec iX11_line_ok 19 rfl) rfl rfl rfl ?_
          refine go_callV (n2 := 0) (q := 39) kX11_225 (ctX11_findWords (σ := (gPut σ 376 5 0)) (τ := τ) hC hM h9 h60 hp) (gDec iX11_line_ok 20 rfl) rfl rfl (by decide) rfl rfl rfl (Nat.le_of_ble_eq_true rfl) rfl (gFit_rm (by decide) (by decide)) rfl ?_
          refine go_aload_n (q := 40) (gDec iX11_line_ok 21 rfl) rfl rfl rfl ?_
          refine go_iload_n (q := 41) (gDec iX11_line_ok 22 rfl) rfl rfl rfl ?_
          refine go_callV (n2 := 0) (q := 44) kX11_228 (ctX11_breakLines (σ := (mFind τ (gPut σ 376 5 0))) (τ := τ) (by rw [(mF_k τ (gPut σ 376 5 0)).1 377 (by decide) (by decide)]; exact hM) (mFind_R τ (gPut σ 376 5 0)).1 h60 (fun w hw => ((mFind_R τ (gPut σ 376 5 0)).2.1 w hw).2)) (gDec iX11_line_ok 23 rfl) rfl rfl (by decide) rfl rfl rfl (Nat.le_of_ble_eq_true rfl) rfl (gFit_rm (by decide) (by decide)) rfl ?_
          refine go_aload_n (q := 45) (gDec iX11_line_ok 24 rfl) rfl rfl rfl ?_
          refine go_iload_n (q := 46) (gDec iX11_line_ok 25 rfl) rfl rfl rfl ?_
          refine go_i2l (q := 47) (gDec iX11_line_ok 26 rfl) rfl ?_
          refine go_iconst (v := nI 0) (q := 48) (gDec iX11_line_ok 27 rfl) (by decide) rfl ?_
          refine go_aload_n (q := 49) (gDec iX11_line_ok 28 rfl) rfl rfl rfl ?_
          refine go_geti (q := 52) fX11_215 (gDec iX11_line_ok 29 rfl) rfl (by decide) rfl ?_
          refine go_top (v' := nI n) (hn3) ?_
          refine go_iconst (v := 1) (q := 53) (gDec iX11_line_ok 30 rfl) (by decide) rfl ?_
          refine go_isub (q := 54) (gDec iX11_line_ok 31 rfl) rfl ?_
          refine go_callS (n2 := 0) (q := 57) kX11_57 ctX11_in (gDec iX11_line_ok 32 rfl) rfl rfl (Nat.le_of_ble_eq_true rfl) rfl (gFit_rm (by decide) (by decide)) rfl ?_
          refine go_top (v' := 1) (gWi_t (by rw [i2l_toInt, nI_pm (by omega)]; exact h2)) ?_
          refine go_if_eq (t := 64) (q := 60) (gDec iX11_line_ok 33 rfl) (by decide) rfl (fun c57 => False.elim (absurd c57 (by decide))) (fun c57 => ?_)
          refine go_iconst (v := nI 0) (q := 61) (gDec iX11_line_ok 34 rfl) (by decide) rfl ?_
          refine go_goto (t := 65) (gDec iX11_line_ok 35 rfl) (by decide) ?_
          refine go_puti (q := 68) fX11_54 gft11 (gDec iX11_line_ok 37 rfl) rfl (by decide) rfl rfl rfl rfl ?_
          refine go_aload_n (q := 69) (gDec iX11_line_ok 38 rfl) rfl rfl rfl ?_
          refine go_geti (q := 72) fX11_54 (gDec iX11_line_ok 39 rfl) rfl (by decide) rfl ?_
          refine go_top (v' := nI 0) rfl ?_
          refine go_if_le (t := 77) (q := 75) (gDec iX11_line_ok 40 rfl) (by decide) rfl (fun c72 => ?_) (fun c72 => False.elim (c72 (by decide)))
          refine go_iload_n (q := 78) (gDec iX11_line_ok 43 rfl) rfl rfl rfl ?_
          refine go_if_ne (t := 90) (q := 81) (gDec iX11_line_ok 44 rfl) (by decide) rfl (fun c78 => ?_) (fun c78 => False.elim (w0 c78))
          refine go_iload_n (q := 91) (gDec iX11_line_ok 50 rfl) rfl rfl rfl ?_
          refine go_iconst (v := nI 1) (q := 92) (gDec iX11_line_ok 51 rfl) (by decide) rfl ?_
          refine go_icmp_ne (t := 109) (q := 95) (gDec iX11_line_ok 52 rfl) (by decide) rfl (fun c92 => False.elim (c92 w1)) (fun c92 => ?_)
          refine go_aload_n (q := 96) (gDec iX11_line_ok 53 rfl) rfl rfl rfl ?_
          refine go_getr (r' := 382) (q := 99) fX11_26 (gDec iX11_line_ok 54 rfl) rfl (by decide) rfl ?_
          refine go_aload_n (q := 100) (gDec iX11_line_ok 55 rfl) rfl rfl rfl ?_
          refine go_getr (r' := 385) (q := 103) fX11_35 (gDec iX11_line_ok 56 rfl) rfl (by decide) rfl ?_
          refine go_iload_n (q := 104) (gDec iX11_line_ok 57 rfl) rfl rfl rfl ?_
          refine go_ialdN (q := 105) (gDec iX11_line_ok 58 rfl) rfl (by decide) (by omega) (by decide) rfl ?_
          refine go_top (v' := nI x) (e3) ?_
          refine go_ialdN (q := 106) (gDec iX11_line_ok 59 rfl) rfl (by decide) (by omega) (by decide) rfl ?_
          refine go_top (v' := (gLn τ m).1 373 j) (e4) ?_
          refine go_goto (t := 115) (gDec iX11_line_ok 60 rfl) (by decide) ?_
          exact go_ireturn (gDec iX11_line_ok 65 rfl) rfl rfl rfl rfl (by decide)
        · rw [if_neg w1]
          refine go_aload_n (q := 1) (gDec iX11_line_ok 0 rfl) rfl rfl rfl ?_
          refine go_iload_n (q := 2) (gDec iX11_line_ok 1 rfl) rfl rfl rfl ?_
          refine go_callS (n2 := 0) (q := 5) kX11_222 ctX11_isMeasure (gDec iX11_line_ok 2 rfl) rfl rfl (Nat.le_of_ble_eq_true rfl) rfl (gFit_rm (by decide) (by decide)) rfl ?_
          refine go_top (v' := 1) (gWi_t (by (try rw [i2l_toInt]); exact h1.1)) ?_
          refine go_if_eq (t := 18) (q := 8) (gDec iX11_line_ok 3 rfl) (by decide) rfl (fun c5 => False.elim (absurd c5 (by decide))) (fun c5 => ?_)
          refine go_iload_n (q := 9) (gDec iX11_line_ok 4 rfl) rfl rfl rfl ?_
          refine go_i2l (q := 10) (gDec iX11_line_ok 5 rfl) rfl ?_
          refine go_iconst (v := nI 0) (q := 11) (gDec iX11_line_ok 6 rfl) (by decide) rfl ?_
          refine go_iconst (v := nI 2) (q := 12) (gDec iX11_line_ok 7 rfl) (by decide) rfl ?_
          refine go_callS (n2 := 0) (q := 15) kX11_57 ctX11_in (gDec iX11_line_ok 8 rfl) rfl rfl (Nat.le_of_ble_eq_true rfl) rfl (gFit_rm (by decide) (by decide)) rfl ?_
          refine go_top (v' := 1) (gWi_t (by (try rw [i2l_toInt]); exact h1.2)) ?_
          refine go_if_ne (t := 22) (q := 18) (gDec iX11_line_ok 9 rfl) (by decide) rfl (fun c15 => ?_) (fun c15 => False.elim (absurd c15 (by decide)))
          refine go_iconst (v := nI 0) (q := 23) (gDec iX11_line_ok 12 rfl) (by decide) rfl ?_
          refine go_puti (q := 26) fX11_54 gft11 (gDec iX11_line_ok 13 rfl) rfl (by decide) rfl rfl rfl rfl ?_
          refine go_aload_n (q := 27) (gDec iX11_line_ok 14 rfl) rfl rfl rfl ?_
          refine go_geti (q := 30) fX11_54 (gDec iX11_line_ok 15 rfl) rfl (by decide) rfl ?_
          refine go_top (v' := nI 0) rfl ?_
          refine go_if_le (t := 35) (q := 33) (gDec iX11_line_ok 16 rfl) (by decide) rfl (fun c30 => ?_) (fun c30 => False.elim (c30 (by decide)))
          refine go_aload_n (q := 36) (gDec iX11_line_ok 19 rfl) rfl rfl rfl ?_
          refine go_callV (n2 := 0) (q := 39) kX11_225 (ctX11_findWords (σ := (gPut σ 376 5 0)) (τ := τ) hC hM h9 h60 hp) (gDec iX11_line_ok 20 rfl) rfl rfl (by decide) rfl rfl rfl (Nat.le_of_ble_eq_true rfl) rfl (gFit_rm (by decide) (by decide)) rfl ?_
          refine go_aload_n (q := 40) (gDec iX11_line_ok 21 rfl) rfl rfl rfl ?_
          refine go_iload_n (q := 41) (gDec iX11_line_ok 22 rfl) rfl rfl rfl ?_
          refine go_callV (n2 := 0) (q := 44) kX11_228 (ctX11_breakLines (σ := (mFind τ (gPut σ 376 5 0))) (τ := τ) (by rw [(mF_k τ (gPut σ 376 5 0)).1 377 (by decide) (by decide)]; exact hM) (mFind_R τ (gPut σ 376 5 0)).1 h60 (fun w hw => ((mFind_R τ (gPut σ 376 5 0)).2.1 w hw).2)) (gDec iX11_line_ok 23 rfl) rfl rfl (by decide) rfl rfl rfl (Nat.le_of_ble_eq_true rfl) rfl (gFit_rm (by decide) (by decide)) rfl ?_
          refine go_aload_n (q := 45) (gDec iX11_line_ok 24 rfl) rfl rfl rfl ?_
          refine go_iload_n (q := 46) (gDec iX11_line_ok 25 rfl) rfl rfl rfl ?_
          refine go_i2l (q := 47) (gDec iX11_line_ok 26 rfl) rfl ?_
          refine go_iconst (v := nI 0) (q := 48) (gDec iX11_line_ok 27 rfl) (by decide) rfl ?_
          refine go_aload_n (q := 49) (gDec iX11_line_ok 28 rfl) rfl rfl rfl ?_
          refine go_geti (q := 52) fX11_215 (gDec iX11_line_ok 29 rfl) rfl (by decide) rfl ?_
          refine go_top (v' := nI n) (hn3) ?_
          refine go_iconst (v := 1) (q := 53) (gDec iX11_line_ok 30 rfl) (by decide) rfl ?_
          refine go_isub (q := 54) (gDec iX11_line_ok 31 rfl) rfl ?_
          refine go_callS (n2 := 0) (q := 57) kX11_57 ctX11_in (gDec iX11_line_ok 32 rfl) rfl rfl (Nat.le_of_ble_eq_true rfl) rfl (gFit_rm (by decide) (by decide)) rfl ?_
          refine go_top (v' := 1) (gWi_t (by rw [i2l_toInt, nI_pm (by omega)]; exact h2)) ?_
          refine go_if_eq (t := 64) (q := 60) (gDec iX11_line_ok 33 rfl) (by decide) rfl (fun c57 => False.elim (absurd c57 (by decide))) (fun c57 => ?_)
          refine go_iconst (v := nI 0) (q := 61) (gDec iX11_line_ok 34 rfl) (by decide) rfl ?_
          refine go_goto (t := 65) (gDec iX11_line_ok 35 rfl) (by decide) ?_
          refine go_puti (q := 68) fX11_54 gft11 (gDec iX11_line_ok 37 rfl) rfl (by decide) rfl rfl rfl rfl ?_
          refine go_aload_n (q := 69) (gDec iX11_line_ok 38 rfl) rfl rfl rfl ?_
          refine go_geti (q := 72) fX11_54 (gDec iX11_line_ok 39 rfl) rfl (by decide) rfl ?_
          refine go_top (v' := nI 0) rfl ?_
          refine go_if_le (t := 77) (q := 75) (gDec iX11_line_ok 40 rfl) (by decide) rfl (fun c72 => ?_) (fun c72 => False.elim (c72 (by decide)))
          refine go_iload_n (q := 78) (gDec iX11_line_ok 43 rfl) rfl rfl rfl ?_
          refine go_if_ne (t := 90) (q := 81) (gDec iX11_line_ok 44 rfl) (by decide) rfl (fun c78 => ?_) (fun c78 => False.elim (w0 c78))
          refine go_iload_n (q := 91) (gDec iX11_line_ok 50 rfl) rfl rfl rfl ?_
          refine go_iconst (v := nI 1) (q := 92) (gDec iX11_line_ok 51 rfl) (by decide) rfl ?_
          refine go_icmp_ne (t := 109) (q := 95) (gDec iX11_line_ok 52 rfl) (by decide) rfl (fun c92 => ?_) (fun c92 => False.elim (w1 c92))
          refine go_aload_n (q := 110) (gDec iX11_line_ok 61 rfl) rfl rfl rfl ?_
          refine go_getr (r' := 386) (q := 113) fX11_38 (gDec iX11_line_ok 62 rfl) rfl (by decide) rfl ?_
          refine go_iload_n (q := 114) (gDec iX11_line_ok 63 rfl) rfl rfl rfl ?_
          refine go_ialdN (q := 115) (gDec iX11_line_ok 64 rfl) rfl (by decide) (by omega) (by decide) rfl ?_
          refine go_top (v' := (gLn τ m).1 375 j) (e2) ?_
          exact go_ireturn (gDec iX11_line_ok 65 rfl) rfl rfl rfl rfl (by decide)
    · rw [show fLine τ m i w = (xNSE, gLn τ m) from (if_pos h1).trans (if_neg (by rw [hna]; exact h2))]
      refine gOK.sc (σ' := gPut (mBr τ m (mFind τ (gPut σ 376 5 0))) 376 5 2) h ?_ (by rw [gPut_at, if_pos ⟨rfl, rfl⟩]; exact xc_AN_N.symm) (gBr_k τ m).1 (gBr_k τ m).2 (hs1 _) (hs2 _) (hs3 _)
      refine ct_of (by decide +kernel) rfl (Nat.le_of_ble_eq_true rfl) rfl ?_
      refine go_aload_n (q := 1) (gDec iX11_line_ok 0 rfl) rfl rfl rfl ?_
      refine go_iload_n (q := 2) (gDec iX11_line_ok 1 rfl) rfl rfl rfl ?_
      refine go_callS (n2 := 0) (q := 5) kX11_222 ctX11_isMeasure (gDec iX11_line_ok 2 rfl) rfl rfl (Nat.le_of_ble_eq_true rfl) rfl (gFit_rm (by decide) (by decide)) rfl ?_
      refine go_top (v' := 1) (gWi_t (by (try rw [i2l_toInt]); exact h1.1)) ?_
      refine go_if_eq (t := 18) (q := 8) (gDec iX11_line_ok 3 rfl) (by decide) rfl (fun c5 => False.elim (absurd c5 (by decide))) (fun c5 => ?_)
      refine go_iload_n (q := 9) (gDec iX11_line_ok 4 rfl) rfl rfl rfl ?_
      refine go_i2l (q := 10) (gDec iX11_line_ok 5 rfl) rfl ?_
      refine go_iconst (v := nI 0) (q := 11) (gDec iX11_line_ok 6 rfl) (by decide) rfl ?_
      refine go_iconst (v := nI 2) (q := 12) (gDec iX11_line_ok 7 rfl) (by decide) rfl ?_
      refine go_callS (n2 := 0) (q := 15) kX11_57 ctX11_in (gDec iX11_line_ok 8 rfl) rfl rfl (Nat.le_of_ble_eq_true rfl) rfl (gFit_rm (by decide) (by decide)) rfl ?_
      refine go_top (v' := 1) (gWi_t (by (try rw [i2l_toInt]); exact h1.2)) ?_
      refine go_if_ne (t := 22) (q := 18) (gDec iX11_line_ok 9 rfl) (by decide) rfl (fun c15 => ?_) (fun c15 => False.elim (absurd c15 (by decide)))
      refine go_iconst (v := nI 0) (q := 23) (gDec iX11_line_ok 12 rfl) (by decide) rfl ?_
      refine go_puti (q := 26) fX11_54 gft11 (gDec iX11_line_ok 13 rfl) rfl (by decide) rfl rfl rfl rfl ?_
      refine go_aload_n (q := 27) (gDec iX11_line_ok 14 rfl) rfl rfl rfl ?_
      refine go_geti (q := 30) fX11_54 (gDec iX11_line_ok 15 rfl) rfl (by decide) rfl ?_
      refine go_top (v' := nI 0) rfl ?_
      refine go_if_le (t := 35) (q := 33) (gDec iX11_line_ok 16 rfl) (by decide) rfl (fun c30 => ?_) (fun c30 => False.elim (c30 (by decide)))
      refine go_aload_n (q := 36) (gDec iX11_line_ok 19 rfl) rfl rfl rfl ?_
      refine go_callV (n2 := 0) (q := 39) kX11_225 (ctX11_findWords (σ := (gPut σ 376 5 0)) (τ := τ) hC hM h9 h60 hp) (gDec iX11_line_ok 20 rfl) rfl rfl (by decide) rfl rfl rfl (Nat.le_of_ble_eq_true rfl) rfl (gFit_rm (by decide) (by decide)) rfl ?_
      refine go_aload_n (q := 40) (gDec iX11_line_ok 21 rfl) rfl rfl rfl ?_
      refine go_iload_n (q := 41) (gDec iX11_line_ok 22 rfl) rfl rfl rfl ?_
      refine go_callV (n2 := 0) (q := 44) kX11_228 (ctX11_breakLines (σ := (mFind τ (gPut σ 376 5 0))) (τ := τ) (by rw [(mF_k τ (gPut σ 376 5 0)).1 377 (by decide) (by decide)]; exact hM) (mFind_R τ (gPut σ 376 5 0)).1 h60 (fun w hw => ((mFind_R τ (gPut σ 376 5 0)).2.1 w hw).2)) (gDec iX11_line_ok 23 rfl) rfl rfl (by decide) rfl rfl rfl (Nat.le_of_ble_eq_true rfl) rfl (gFit_rm (by decide) (by decide)) rfl ?_
      refine go_aload_n (q := 45) (gDec iX11_line_ok 24 rfl) rfl rfl rfl ?_
      refine go_iload_n (q := 46) (gDec iX11_line_ok 25 rfl) rfl rfl rfl ?_
      refine go_i2l (q := 47) (gDec iX11_line_ok 26 rfl) rfl ?_
      refine go_iconst (v := nI 0) (q := 48) (gDec iX11_line_ok 27 rfl) (by decide) rfl ?_
      refine go_aload_n (q := 49) (gDec iX11_line_ok 28 rfl) rfl rfl rfl ?_
      refine go_geti (q := 52) fX11_215 (gDec iX11_line_ok 29 rfl) rfl (by decide) rfl ?_
      refine go_top (v' := nI n) (hn3) ?_
      refine go_iconst (v := 1) (q := 53) (gDec iX11_line_ok 30 rfl) (by decide) rfl ?_
      refine go_isub (q := 54) (gDec iX11_line_ok 31 rfl) rfl ?_
      refine go_callS (n2 := 0) (q := 57) kX11_57 ctX11_in (gDec iX11_line_ok 32 rfl) rfl rfl (Nat.le_of_ble_eq_true rfl) rfl (gFit_rm (by decide) (by decide)) rfl ?_
      refine go_top (v' := 0) (gWi_f (by rw [i2l_toInt, nI_pm (by omega)]; exact h2)) ?_
      refine go_if_eq (t := 64) (q := 60) (gDec iX11_line_ok 33 rfl) (by decide) rfl (fun c57 => ?_) (fun c57 => False.elim (c57 rfl))
      refine go_iconst (v := nI 2) (q := 65) (gDec iX11_line_ok 36 rfl) (by decide) rfl ?_
      refine go_puti (q := 68) fX11_54 gft11 (gDec iX11_line_ok 37 rfl) rfl (by decide) rfl rfl rfl rfl ?_
      refine go_aload_n (q := 69) (gDec iX11_line_ok 38 rfl) rfl rfl rfl ?_
      refine go_geti (q := 72) fX11_54 (gDec iX11_line_ok 39 rfl) rfl (by decide) rfl ?_
      refine go_top (v' := nI 2) rfl ?_
      refine go_if_le (t := 77) (q := 75) (gDec iX11_line_ok 40 rfl) (by decide) rfl (fun c72 => False.elim (absurd c72 (by decide))) (fun c72 => ?_)
      refine go_iconst (v := nI 0) (q := 76) (gDec iX11_line_ok 41 rfl) (by decide) rfl ?_
      exact go_ireturn (gDec iX11_line_ok 42 rfl) rfl rfl rfl rfl (by decide)
  · rw [show fLine τ m i w = (xIAE, τ) from if_neg h1]
    refine gOK.rd h rfl ?_
    refine ct_of (by decide +kernel) rfl (Nat.le_of_ble_eq_true rfl) rfl ?_
    by_cases h3 : 1 ≤ m.toInt ∧ m.toInt ≤ 100000
    · have h4 : ¬ (0 ≤ w.toInt ∧ w.toInt ≤ 2) := fun h9 => h1 ⟨h3, h9⟩
      refine go_aload_n (q := 1) (gDec iX11_line_ok 0 rfl) rfl rfl rfl ?_
      refine go_iload_n (q := 2) (gDec iX11_line_ok 1 rfl) rfl rfl rfl ?_
      refine go_callS (n2 := 0) (q := 5) kX11_222 ctX11_isMeasure (gDec iX11_line_ok 2 rfl) rfl rfl (Nat.le_of_ble_eq_true rfl) rfl (gFit_rm (by decide) (by decide)) rfl ?_
      refine go_top (v' := 1) (gWi_t (by (try rw [i2l_toInt]); exact h3)) ?_
      refine go_if_eq (t := 18) (q := 8) (gDec iX11_line_ok 3 rfl) (by decide) rfl (fun c5 => False.elim (absurd c5 (by decide))) (fun c5 => ?_)
      refine go_iload_n (q := 9) (gDec iX11_line_ok 4 rfl) rfl rfl rfl ?_
      refine go_i2l (q := 10) (gDec iX11_line_ok 5 rfl) rfl ?_
      refine go_iconst (v := nI 0) (q := 11) (gDec iX11_line_ok 6 rfl) (by decide) rfl ?_
      refine go_iconst (v := nI 2) (q := 12) (gDec iX11_line_ok 7 rfl) (by decide) rfl ?_
      refine go_callS (n2 := 0) (q := 15) kX11_57 ctX11_in (gDec iX11_line_ok 8 rfl) rfl rfl (Nat.le_of_ble_eq_true rfl) rfl (gFit_rm (by decide) (by decide)) rfl ?_
      refine go_top (v' := 0) (gWi_f (by (try rw [i2l_toInt]); exact h4)) ?_
      refine go_if_ne (t := 22) (q := 18) (gDec iX11_line_ok 9 rfl) (by decide) rfl (fun c15 => False.elim (c15 rfl)) (fun c15 => ?_)
      refine go_iconst (v := nI 1) (q := 19) (gDec iX11_line_ok 10 rfl) (by decide) rfl ?_
      refine go_goto (t := 23) (gDec iX11_line_ok 11 rfl) (by decide) ?_
      refine go_puti (q := 26) fX11_54 gft11 (gDec iX11_line_ok 13 rfl) rfl (by decide) rfl rfl rfl rfl ?_
      refine go_aload_n (q := 27) (gDec iX11_line_ok 14 rfl) rfl rfl rfl ?_
      refine go_geti (q := 30) fX11_54 (gDec iX11_line_ok 15 rfl) rfl (by decide) rfl ?_
      refine go_top (v' := nI 1) rfl ?_
      refine go_if_le (t := 35) (q := 33) (gDec iX11_line_ok 16 rfl) (by decide) rfl (fun c30 => False.elim (absurd c30 (by decide))) (fun c30 => ?_)
      refine go_iconst (v := nI 0) (q := 34) (gDec iX11_line_ok 17 rfl) (by decide) rfl ?_
      exact go_ireturn (gDec iX11_line_ok 18 rfl) rfl rfl rfl (congrArg (gPut σ 376 5) xc_AN_A) (by decide)
    · skip
      refine go_aload_n (q := 1) (gDec iX11_line_ok 0 rfl) rfl rfl rfl ?_
      refine go_iload_n (q := 2) (gDec iX11_line_ok 1 rfl) rfl rfl rfl ?_
      refine go_callS (n2 := 0) (q := 5) kX11_222 ctX11_isMeasure (gDec iX11_line_ok 2 rfl) rfl rfl (Nat.le_of_ble_eq_true rfl) rfl (gFit_rm (by decide) (by decide)) rfl ?_
      refine go_top (v' := 0) (gWi_f (by (try rw [i2l_toInt]); exact h3)) ?_
      refine go_if_eq (t := 18) (q := 8) (gDec iX11_line_ok 3 rfl) (by decide) rfl (fun c5 => ?_) (fun c5 => False.elim (c5 rfl))
      refine go_iconst (v := nI 1) (q := 19) (gDec iX11_line_ok 10 rfl) (by decide) rfl ?_
      refine go_goto (t := 23) (gDec iX11_line_ok 11 rfl) (by decide) ?_
      refine go_puti (q := 26) fX11_54 gft11 (gDec iX11_line_ok 13 rfl) rfl (by decide) rfl rfl rfl rfl ?_
      refine go_aload_n (q := 27) (gDec iX11_line_ok 14 rfl) rfl rfl rfl ?_
      refine go_geti (q := 30) fX11_54 (gDec iX11_line_ok 15 rfl) rfl (by decide) rfl ?_
      refine go_top (v' := nI 1) rfl ?_
      refine go_if_le (t := 35) (q := 33) (gDec iX11_line_ok 16 rfl) (by decide) rfl (fun c30 => False.elim (absurd c30 (by decide))) (fun c30 => ?_)
      refine go_iconst (v := nI 0) (q := 34) (gDec iX11_line_ok 17 rfl) (by decide) rfl ?_
      exact go_ireturn (gDec iX11_line_ok 18 rfl) rfl rfl rfl (congrArg (gPut σ 376 5) xc_AN_A) (by decide)
