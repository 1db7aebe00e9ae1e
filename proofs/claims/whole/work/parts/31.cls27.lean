/-- the proof set -/
def gSet (σ : gST) : gST := (gLoop (gSetS (gPut σ 363 7 (σ.1 1 4 + σ.1 1 5 + σ.1 1 4))) 0 (gPl_ σ) (0, gPut σ 363 7 (σ.1 1 4 + σ.1 1 5 + σ.1 1 4))).2
theorem ctX6_set' {κ : gK} {σ : gST} (hW : gDW σ) (hP : gPW σ) : gCt κ mX6_set 6 [.ref (κ.2.1 + 363), .ref (κ.2.1 + 1)] σ (.inl none) (gSet σ) 0 := ctX6_set hW hP
theorem gSetL_I {σ : gST} : ∀ (m i : Nat) (a : Int32 × gST), gSetI σ a.2 → gSetI σ (gLoop (gSetS σ) i m a).2
  | 0, _, _, h => h
  | m + 1, i, a, h => gSetL_I m (i + 1) _ (gSetS_I i a h)
theorem gSet_pw {σ : gST} (hP : gPW σ) : gPW (gSet σ) ∧ gPl_ (gSet σ) = gPl_ σ := by
  have h6 : (gPut σ 363 7 (σ.1 1 4 + σ.1 1 5 + σ.1 1 4)).1 363 6 = σ.1 363 6 := by rw [gPut_at, if_neg (by decide)]
  have hP0 : gPW (gPut σ 363 7 (σ.1 1 4 + σ.1 1 5 + σ.1 1 4)) := by
    unfold gPW
    rw [h6, gPut_ne _ _ _ (by decide)]
    exact hP
  have hI := gSetL_I (σ := gPut σ 363 7 (σ.1 1 4 + σ.1 1 5 + σ.1 1 4)) (gPl_ σ) 0 (0, gPut σ 363 7 (σ.1 1 4 + σ.1 1 5 + σ.1 1 4)) ⟨gEqD.rf _, rfl, rfl⟩
  refine ⟨hI.pw hP0, ?_⟩
  have h7 : (gSet σ).1 363 6 = σ.1 363 6 := (congrFun hI.2.2 6).trans h6
  unfold gPl_
  rw [h7]
def fProofWidth (σ : gST) : gO × gST := if gPl_ σ = 0 then (xNSE, σ) else (rI ((gSet σ).1 369 (gPl_ σ - 1)), gSet σ)
def fPosition (σ : gST) (i : Int32) : gO × gST := if 0 ≤ i.toInt ∧ i.toInt ≤ (gPl_ σ : Int) - 1 then (rI ((gSet σ).1 367 (nA i)), gSet σ) else (xNSE, σ)
def fLines (σ : gST) (m : Int32) : gO × gST := if 1 ≤ m.toInt ∧ m.toInt ≤ 100000 then (rI ((gBr (gSet σ) m).1 363 8), gBr (gSet σ) m) else (xIAE, σ)
def fLeast (σ : gST) (n : Int32) : gO × gST := if 1 ≤ n.toInt ∧ n.toInt ≤ 60 then
    if (gLm n 3600 1 (gSet σ)).1 = -1 then (xNSE, (gLm n 3600 1 (gSet σ)).2) else (rI (gLm n 3600 1 (gSet σ)).1, (gLm n 3600 1 (gSet σ)).2)
  else (xIAE, σ)

set_option maxHeartbeats 4000000 in
set_option maxRecDepth 100000 in
theorem ctX10_proofWidth {κ : gK} {σ : gST} (hW : gDW σ) (hP : gPW σ) : gCt κ mX10_proofWidth 9 [.ref (κ.2.1 + 0)] σ (fProofWidth σ).1 (fProofWidth σ).2 1 := by
  refine ct_of (by decide +kernel) rfl (Nat.le_of_ble_eq_true rfl) rfl ?_
  have h60 := hP.pl60
  by_cases h1 : gPl_ σ = 0
  · rw [show fProofWidth σ = _ from if_pos h1]
    refine go_aload_n (q := 1) (gDec iX10_proofWidth_ok 0 rfl) rfl rfl rfl ?_
    refine go_getr (r' := 363) (q := 4) fX10_43 (gDec iX10_proofWidth_ok 1 rfl) rfl (by decide) rfl ?_
    refine go_callV (n2 := 0) (q := 7) kX10_383 ctX6_length (gDec iX10_proofWidth_ok 2 rfl) rfl rfl (by decide) rfl rfl rfl (Nat.le_of_ble_eq_true rfl) rfl (gFit_rm (by decide) (by decide)) rfl ?_
    refine go_top (v' := nI (gPl_ σ)) (hP.pl) ?_
    refine go_if_ne (t := 21) (q := 10) (gDec iX10_proofWidth_ok 3 rfl) (by decide) rfl (fun c7 => False.elim (c7 (congrArg nI h1))) (fun c7 => ?_)
    exact go_throwW th_NoSuchElementException (List.mem_of_getElem? (i := 28) rfl) rfl rfl (gDec iX10_proofWidth_ok 4 rfl) (gDec iX10_proofWidth_ok 5 rfl) (gDec iX10_proofWidth_ok 6 rfl) (gDec iX10_proofWidth_ok 7 rfl) (gDec iX10_proofWidth_ok 8 rfl) (by decide) (by decide)
  · rw [show fProofWidth σ = _ from if_neg h1]
    obtain ⟨n, hn⟩ : ∃ n, gPl_ σ = n + 1 := ⟨gPl_ σ - 1, by omega⟩
    have hl : (gSet σ).1 363 6 = nI (n + 1) := by
      have h2 := (gSet_pw hP).1.pl
      rw [(gSet_pw hP).2, hn] at h2
      exact h2
    rw [hn, Nat.add_sub_cancel]
    refine go_aload_n (q := 1) (gDec iX10_proofWidth_ok 0 rfl) rfl rfl rfl ?_
    refine go_getr (r' := 363) (q := 4) fX10_43 (gDec iX10_proofWidth_ok 1 rfl) rfl (by decide) rfl ?_
    refine go_callV (n2 := 0) (q := 7) kX10_383 ctX6_length (gDec iX10_proofWidth_ok 2 rfl) rfl rfl (by decide) rfl rfl rfl (Nat.le_of_ble_eq_true rfl) rfl (gFit_rm (by decide) (by decide)) rfl ?_
    refine go_top (v' := nI (n + 1)) (hP.pl.trans (congrArg nI hn)) ?_
    refine go_if_ne (t := 21) (q := 10) (gDec iX10_proofWidth_ok 3 rfl) (by decide) rfl (fun c7 => ?_) (fun c7 => False.elim (nI_ne0 (n := n + 1) (by omega) (by omega) c7))
    refine go_aload_n (q := 22) (gDec iX10_proofWidth_ok 9 rfl) rfl rfl rfl ?_
    refine go_getr (r' := 363) (q := 25) fX10_43 (gDec iX10_proofWidth_ok 10 rfl) rfl (by decide) rfl ?_
    refine go_aload_n (q := 26) (gDec iX10_proofWidth_ok 11 rfl) rfl rfl rfl ?_
    refine go_getr (r' := 1) (q := 29) fX10_10 (gDec iX10_proofWidth_ok 12 rfl) rfl (by decide) rfl ?_
    refine go_callV (n2 := 0) (q := 32) kX10_388 (ctX6_set' hW hP) (gDec iX10_proofWidth_ok 13 rfl) rfl rfl (by decide) rfl rfl rfl (Nat.le_of_ble_eq_true rfl) rfl (gFit_rm (by decide) (by decide)) rfl ?_
    refine go_aload_n (q := 33) (gDec iX10_proofWidth_ok 14 rfl) rfl rfl rfl ?_
    refine go_getr (r' := 363) (q := 36) fX10_43 (gDec iX10_proofWidth_ok 15 rfl) rfl (by decide) rfl ?_
    refine go_callV (n2 := 0) (q := 39) kX10_391 (ctX6_width (n := n) hl (by omega)) (gDec iX10_proofWidth_ok 16 rfl) rfl rfl (by decide) rfl rfl rfl (Nat.le_of_ble_eq_true rfl) rfl (gFit_rm (by decide) (by decide)) rfl ?_
    exact go_ireturn (gDec iX10_proofWidth_ok 17 rfl) rfl rfl rfl rfl (by decide)

set_option maxHeartbeats 4000000 in
set_option maxRecDepth 100000 in
theorem ctX10_lines {κ : gK} {σ : gST} {m : Int32} (hW : gDW σ) (hP : gPW σ) : gCt κ mX10_lines 9 [.ref (κ.2.1 + 0), .int m] σ (fLines σ m).1 (fLines σ m).2 1 := by
  refine ct_of (by decide +kernel) rfl (Nat.le_of_ble_eq_true rfl) rfl ?_
  by_cases h1 : 1 ≤ m.toInt ∧ m.toInt ≤ 100000
  · rw [show fLines σ m = _ from if_pos h1]
    refine go_iload_n (q := 1) (gDec iX10_lines_ok 0 rfl) rfl rfl rfl ?_
    refine go_callS (n2 := 0) (q := 4) kX10_399 (ctX10_requireMeasure h1) (gDec iX10_lines_ok 1 rfl) rfl rfl (Nat.le_of_ble_eq_true rfl) rfl (gFit_rm (by decide) (by decide)) rfl ?_
    refine go_aload_n (q := 5) (gDec iX10_lines_ok 2 rfl) rfl rfl rfl ?_
    refine go_getr (r' := 363) (q := 8) fX10_43 (gDec iX10_lines_ok 3 rfl) rfl (by decide) rfl ?_
    refine go_aload_n (q := 9) (gDec iX10_lines_ok 4 rfl) rfl rfl rfl ?_
    refine go_getr (r' := 1) (q := 12) fX10_10 (gDec iX10_lines_ok 5 rfl) rfl (by decide) rfl ?_
    refine go_callV (n2 := 0) (q := 15) kX10_388 (ctX6_set' hW hP) (gDec iX10_lines_ok 6 rfl) rfl rfl (by decide) rfl rfl rfl (Nat.le_of_ble_eq_true rfl) rfl (gFit_rm (by decide) (by decide)) rfl ?_
    refine go_aload_n (q := 16) (gDec iX10_lines_ok 7 rfl) rfl rfl rfl ?_
    refine go_getr (r' := 363) (q := 19) fX10_43 (gDec iX10_lines_ok 8 rfl) rfl (by decide) rfl ?_
    refine go_iload_n (q := 20) (gDec iX10_lines_ok 9 rfl) rfl rfl rfl ?_
    refine go_callV (n2 := 0) (q := 23) kX10_402 (ctX6_breakLines (gSet_pw hP).1) (gDec iX10_lines_ok 10 rfl) rfl rfl (by decide) rfl rfl rfl (Nat.le_of_ble_eq_true rfl) rfl (gFit_rm (by decide) (by decide)) rfl ?_
    refine go_aload_n (q := 24) (gDec iX10_lines_ok 11 rfl) rfl rfl rfl ?_
    refine go_getr (r' := 363) (q := 27) fX10_43 (gDec iX10_lines_ok 12 rfl) rfl (by decide) rfl ?_
    refine go_callV (n2 := 0) (q := 30) kX10_405 ctX6_lineCount (gDec iX10_lines_ok 13 rfl) rfl rfl (by decide) rfl rfl rfl (Nat.le_of_ble_eq_true rfl) rfl (gFit_rm (by decide) (by decide)) rfl ?_
    exact go_ireturn (gDec iX10_lines_ok 14 rfl) rfl rfl rfl rfl (by decide)
  · rw [show fLines σ m = _ from if_neg h1]
    refine go_iload_n (q := 1) (gDec iX10_lines_ok 0 rfl) rfl rfl rfl ?_
    exact go_callS_x kX10_399 (ctX10_requireMeasure_x h1) (gDec iX10_lines_ok 1 rfl) rfl rfl (Nat.le_of_ble_eq_true rfl) (gFit_rm (by decide) (by decide)) rfl

set_option maxHeartbeats 4000000 in
set_option maxRecDepth 100000 in
theorem ctX10_position {κ : gK} {σ : gST} {i : Int32} (hW : gDW σ) (hP : gPW σ) : gCt κ mX10_position 9 [.ref (κ.2.1 + 0), .int i] σ (fPosition σ i).1 (fPosition σ i).2 1 := by
  refine ct_of (by decide +kernel) rfl (Nat.le_of_ble_eq_true rfl) rfl ?_
  have h60 := hP.pl60
  by_cases h1 : 0 ≤ i.toInt ∧ i.toInt ≤ (gPl_ σ : Int) - 1
  · rw [show fPosition σ i = _ from if_pos h1]
    obtain ⟨k, hk, rfl⟩ := gIn_ex h1
    rw [nA_nI (n := k) (by omega)]
    refine go_iload_n (q := 1) (gDec iX10_position_ok 0 rfl) rfl rfl rfl ?_
    refine go_i2l (q := 2) (gDec iX10_position_ok 1 rfl) rfl ?_
    refine go_lconst (v := 0) (q := 3) (gDec iX10_position_ok 2 rfl) (by decide) rfl ?_
    refine go_aload_n (q := 4) (gDec iX10_position_ok 3 rfl) rfl rfl rfl ?_
    refine go_getr (r' := 363) (q := 7) fX10_43 (gDec iX10_position_ok 4 rfl) rfl (by decide) rfl ?_
    refine go_callV (n2 := 0) (q := 10) kX10_383 ctX6_length (gDec iX10_position_ok 5 rfl) rfl rfl (by decide) rfl rfl rfl (Nat.le_of_ble_eq_true rfl) rfl (gFit_rm (by decide) (by decide)) rfl ?_
    refine go_top (v' := nI (gPl_ σ)) (hP.pl) ?_
    refine go_iconst (v := 1) (q := 11) (gDec iX10_position_ok 6 rfl) (by decide) rfl ?_
    refine go_isub (q := 12) (gDec iX10_position_ok 7 rfl) rfl ?_
    refine go_i2l (q := 13) (gDec iX10_position_ok 8 rfl) rfl ?_
    refine go_callS (n2 := 0) (q := 16) kX10_59 ctX10_isWithin (gDec iX10_position_ok 9 rfl) rfl rfl (Nat.le_of_ble_eq_true rfl) rfl (gFit_rm (by decide) (by decide)) rfl ?_
    refine go_top (v' := 1) (gWi_t (by rw [i2l_toInt, i2l_pred (by omega), show ((0 : Int64)).toInt = 0 from rfl]; exact h1)) ?_
    refine go_if_ne (t := 30) (q := 19) (gDec iX10_position_ok 10 rfl) (by decide) rfl (fun c16 => ?_) (fun c16 => False.elim (absurd c16 (by decide)))
    refine go_aload_n (q := 31) (gDec iX10_position_ok 16 rfl) rfl rfl rfl ?_
    refine go_getr (r' := 363) (q := 34) fX10_43 (gDec iX10_position_ok 17 rfl) rfl (by decide) rfl ?_
    refine go_aload_n (q := 35) (gDec iX10_position_ok 18 rfl) rfl rfl rfl ?_
    refine go_getr (r' := 1) (q := 38) fX10_10 (gDec iX10_position_ok 19 rfl) rfl (by decide) rfl ?_
    refine go_callV (n2 := 0) (q := 41) kX10_388 (ctX6_set' hW hP) (gDec iX10_position_ok 20 rfl) rfl rfl (by decide) rfl rfl rfl (Nat.le_of_ble_eq_true rfl) rfl (gFit_rm (by decide) (by decide)) rfl ?_
    refine go_aload_n (q := 42) (gDec iX10_position_ok 21 rfl) rfl rfl rfl ?_
    refine go_getr (r' := 363) (q := 45) fX10_43 (gDec iX10_position_ok 22 rfl) rfl (by decide) rfl ?_
    refine go_iload_n (q := 46) (gDec iX10_position_ok 23 rfl) rfl rfl rfl ?_
    refine go_callV (n2 := 0) (q := 49) kX10_396 (ctX6_placeOf (i := k) (by omega)) (gDec iX10_position_ok 24 rfl) rfl rfl (by decide) rfl rfl rfl (Nat.le_of_ble_eq_true rfl) rfl (gFit_rm (by decide) (by decide)) rfl ?_
    exact go_ireturn (gDec iX10_position_ok 25 rfl) rfl rfl rfl rfl (by decide)
  · rw [show fPosition σ i = _ from if_neg h1]
    refine go_iload_n (q := 1) (gDec iX10_position_ok 0 rfl) rfl rfl rfl ?_
    refine go_i2l (q := 2) (gDec iX10_position_ok 1 rfl) rfl ?_
    refine go_lconst (v := 0) (q := 3) (gDec iX10_position_ok 2 rfl) (by decide) rfl ?_
    refine go_aload_n (q := 4) (gDec iX10_position_ok 3 rfl) rfl rfl rfl ?_
    refine go_getr (r' := 363) (q := 7) fX10_43 (gDec iX10_position_ok 4 rfl) rfl (by decide) rfl ?_
    refine go_callV (n2 := 0) (q := 10) kX10_383 ctX6_length (gDec iX10_position_ok 5 rfl) rfl rfl (by decide) rfl rfl rfl (Nat.le_of_ble_eq_true rfl) rfl (gFit_rm (by decide) (by decide)) rfl ?_
    refine go_top (v' := nI (gPl_ σ)) (hP.pl) ?_
    refine go_iconst (v := 1) (q := 11) (gDec iX10_position_ok 6 rfl) (by decide) rfl ?_
    refine go_isub (q := 12) (gDec iX10_position_ok 7 rfl) rfl ?_
    refine go_i2l (q := 13) (gDec iX10_position_ok 8 rfl) rfl ?_
    refine go_callS (n2 := 0) (q := 16) kX10_59 ctX10_isWithin (gDec iX10_position_ok 9 rfl) rfl rfl (Nat.le_of_ble_eq_true rfl) rfl (gFit_rm (by decide) (by decide)) rfl ?_
    refine go_top (v' := 0) (gWi_f (by rw [i2l_toInt, i2l_pred (by omega), show ((0 : Int64)).toInt = 0 from rfl]; exact h1)) ?_
    refine go_if_ne (t := 30) (q := 19) (gDec iX10_position_ok 10 rfl) (by decide) rfl (fun c16 => False.elim (c16 rfl)) (fun c16 => ?_)
    exact go_throwW th_NoSuchElementException (List.mem_of_getElem? (i := 29) rfl) rfl rfl (gDec iX10_position_ok 11 rfl) (gDec iX10_position_ok 12 rfl) (gDec iX10_position_ok 13 rfl) (gDec iX10_position_ok 14 rfl) (gDec iX10_position_ok 15 rfl) (by decide) (by decide)

set_option maxHeartbeats 4000000 in
set_option maxRecDepth 100000 in
theorem ctX10_leastMeasure {κ : gK} {σ : gST} {n : Int32} (hW : gDW σ) (hP : gPW σ) : gCt κ mX10_leastMeasure 9 [.ref (κ.2.1 + 0), .int n] σ (fLeast σ n).1 (fLeast σ n).2 1 := by
  refine ct_of (by decide +kernel) rfl (Nat.le_of_ble_eq_true rfl) rfl ?_
  by_cases h1 : 1 ≤ n.toInt ∧ n.toInt ≤ 60
  · have hs : fLeast σ n = _ := if_pos h1
    rw [hs]
    by_cases h2 : (gLm n 3600 1 (gSet σ)).1 = -1
    · rw [if_pos h2]
      refine go_iload_n (q := 1) (gDec iX10_leastMeasure_ok 0 rfl) rfl rfl rfl ?_
      refine go_i2l (q := 2) (gDec iX10_leastMeasure_ok 1 rfl) rfl ?_
      refine go_lconst (v := 1) (q := 3) (gDec iX10_leastMeasure_ok 2 rfl) (by decide) rfl ?_
      refine go_ldc2 (q := 6) wX10_423 (gDec iX10_leastMeasure_ok 3 rfl) rfl ?_
      refine go_callS (n2 := 0) (q := 9) kX10_59 ctX10_isWithin (gDec iX10_leastMeasure_ok 4 rfl) rfl rfl (Nat.le_of_ble_eq_true rfl) rfl (gFit_rm (by decide) (by decide)) rfl ?_
      refine go_top (v' := 1) (gWi_t (by rw [i2l_toInt]; exact h1)) ?_
      refine go_if_ne (t := 23) (q := 12) (gDec iX10_leastMeasure_ok 5 rfl) (by decide) rfl (fun c9 => ?_) (fun c9 => False.elim (absurd c9 (by decide)))
      refine go_aload_n (q := 24) (gDec iX10_leastMeasure_ok 11 rfl) rfl rfl rfl ?_
      refine go_getr (r' := 363) (q := 27) fX10_43 (gDec iX10_leastMeasure_ok 12 rfl) rfl (by decide) rfl ?_
      refine go_aload_n (q := 28) (gDec iX10_leastMeasure_ok 13 rfl) rfl rfl rfl ?_
      refine go_getr (r' := 1) (q := 31) fX10_10 (gDec iX10_leastMeasure_ok 14 rfl) rfl (by decide) rfl ?_
      refine go_callV (n2 := 0) (q := 34) kX10_388 (ctX6_set' hW hP) (gDec iX10_leastMeasure_ok 15 rfl) rfl rfl (by decide) rfl rfl rfl (Nat.le_of_ble_eq_true rfl) rfl (gFit_rm (by decide) (by decide)) rfl ?_
      refine go_aload_n (q := 35) (gDec iX10_leastMeasure_ok 16 rfl) rfl rfl rfl ?_
      refine go_getr (r' := 363) (q := 38) fX10_43 (gDec iX10_leastMeasure_ok 17 rfl) rfl (by decide) rfl ?_
      refine go_iload_n (q := 39) (gDec iX10_leastMeasure_ok 18 rfl) rfl rfl rfl ?_
      refine go_callV (n2 := 0) (q := 42) kX10_427 (ctX6_leastMeasureFor (gSet_pw hP).1) (gDec iX10_leastMeasure_ok 19 rfl) rfl rfl (by decide) rfl rfl rfl (Nat.le_of_ble_eq_true rfl) rfl (gFit_rm (by decide) (by decide)) rfl ?_
      refine go_istore_n (q := 43) (gDec iX10_leastMeasure_ok 20 rfl) rfl (by decide) rfl ?_
      refine go_iload_n (q := 44) (gDec iX10_leastMeasure_ok 21 rfl) rfl rfl rfl ?_
      refine go_iconst (v := (-1)) (q := 45) (gDec iX10_leastMeasure_ok 22 rfl) (by decide) rfl ?_
      refine go_icmp_ne (t := 59) (q := 48) (gDec iX10_leastMeasure_ok 23 rfl) (by decide) rfl (fun c45 => False.elim (c45 h2)) (fun c45 => ?_)
      exact go_throwW th_NoSuchElementException (List.mem_of_getElem? (i := 34) rfl) rfl rfl (gDec iX10_leastMeasure_ok 24 rfl) (gDec iX10_leastMeasure_ok 25 rfl) (gDec iX10_leastMeasure_ok 26 rfl) (gDec iX10_leastMeasure_ok 27 rfl) (gDec iX10_leastMeasure_ok 28 rfl) (by decide) (by decide)
    · rw [if_neg h2]
      refine go_iload_n (q := 1) (gDec iX10_leastMeasure_ok 0 rfl) rfl rfl rfl ?_
      refine go_i2l (q := 2) (gDec iX10_leastMeasure_ok 1 rfl) rfl ?_
      refine go_lconst (v := 1) (q := 3) (gDec iX10_leastMeasure_ok 2 rfl) (by decide) rfl ?_
      refine go_ldc2 (q := 6) wX10_423 (gDec iX10_leastMeasure_ok 3 rfl) rfl ?_
      refine go_callS (n2 := 0) (q := 9) kX10_59 ctX10_isWithin (gDec iX10_leastMeasure_ok 4 rfl) rfl rfl (Nat.le_of_ble_eq_true rfl) rfl (gFit_rm (by decide) (by decide)) rfl ?_
      refine go_top (v' := 1) (gWi_t (by rw [i2l_toInt]; exact h1)) ?_
      refine go_if_ne (t := 23) (q := 12) (gDec iX10_leastMeasure_ok 5 rfl) (by decide) rfl (fun c9 => ?_) (fun c9 => False.elim (absurd c9 (by decide)))
      refine go_aload_n (q := 24) (gDec iX10_leastMeasure_ok 11 rfl) rfl rfl rfl ?_
      refine go_getr (r' := 363) (q := 27) fX10_43 (gDec iX10_leastMeasure_ok 12 rfl) rfl (by decide) rfl ?_
      refine go_aload_n (q := 28) (gDec iX10_leastMeasure_ok 13 rfl) rfl rfl rfl ?_
      refine go_getr (r' := 1) (q := 31) fX10_10 (gDec iX10_leastMeasure_ok 14 rfl) rfl (by decide) rfl ?_
      refine go_callV (n2 := 0) (q := 34) kX10_388 (ctX6_set' hW hP) (gDec iX10_leastMeasure_ok 15 rfl) rfl rfl (by decide) rfl rfl rfl (Nat.le_of_ble_eq_true rfl) rfl (gFit_rm (by decide) (by decide)) rfl ?_
      refine go_aload_n (q := 35) (gDec iX10_leastMeasure_ok 16 rfl) rfl rfl rfl ?_
      refine go_getr (r' := 363) (q := 38) fX10_43 (gDec iX10_leastMeasure_ok 17 rfl) rfl (by decide) rfl ?_
      refine go_iload_n (q := 39) (gDec iX10_leastMeasure_ok 18 rfl) rfl rfl rfl ?_
      refine go_callV (n2 := 0) (q := 42) kX10_427 (ctX6_leastMeasureFor (gSet_pw hP).1) (gDec iX10_leastMeasure_ok 19 rfl) rfl rfl (by decide) rfl rfl rfl (Nat.le_of_ble_eq_true rfl) rfl (gFit_rm (by decide) (by decide)) rfl ?_
      refine go_istore_n (q := 43) (gDec iX10_leastMeasure_ok 20 rfl) rfl (by decide) rfl ?_
      refine go_iload_n (q := 44) (gDec iX10_leastMeasure_ok 21 rfl) rfl rfl rfl ?_
      refine go_iconst (v := (-1)) (q := 45) (gDec iX10_leastMeasure_ok 22 rfl) (by decide) rfl ?_
      refine go_icmp_ne (t := 59) (q := 48) (gDec iX10_leastMeasure_ok 23 rfl) (by decide) rfl (fun c45 => ?_) (fun c45 => False.elim (h2 c45))
      refine go_iload_n (q := 60) (gDec iX10_leastMeasure_ok 29 rfl) rfl rfl rfl ?_
      exact go_ireturn (gDec iX10_leastMeasure_ok 30 rfl) rfl rfl rfl rfl (by decide)
  · rw [show fLeast σ n = _ from if_neg h1]
    refine go_iload_n (q := 1) (gDec iX10_leastMeasure_ok 0 rfl) rfl rfl rfl ?_
    refine go_i2l (q := 2) (gDec iX10_leastMeasure_ok 1 rfl) rfl ?_
    refine go_lconst (v := 1) (q := 3) (gDec iX10_leastMeasure_ok 2 rfl) (by decide) rfl ?_
    refine go_ldc2 (q := 6) wX10_423 (gDec iX10_leastMeasure_ok 3 rfl) rfl ?_
    refine go_callS (n2 := 0) (q := 9) kX10_59 ctX10_isWithin (gDec iX10_leastMeasure_ok 4 rfl) rfl rfl (Nat.le_of_ble_eq_true rfl) rfl (gFit_rm (by decide) (by decide)) rfl ?_
    refine go_top (v' := 0) (gWi_f (by rw [i2l_toInt]; exact h1)) ?_
    refine go_if_ne (t := 23) (q := 12) (gDec iX10_leastMeasure_ok 5 rfl) (by decide) rfl (fun c9 => False.elim (c9 rfl)) (fun c9 => ?_)
    exact go_throwW th_IllegalArgumentException (List.mem_of_getElem? (i := 33) rfl) rfl rfl (gDec iX10_leastMeasure_ok 6 rfl) (gDec iX10_leastMeasure_ok 7 rfl) (gDec iX10_leastMeasure_ok 8 rfl) (gDec iX10_leastMeasure_ok 9 rfl) (gDec iX10_leastMeasure_ok 10 rfl) (by decide) (by decide)
