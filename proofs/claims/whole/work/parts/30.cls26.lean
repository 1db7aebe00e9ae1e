/-- undo -/
def gTake (σ : gST) : gST := gDc gLX1_copyFrom (gPut (gPut σ 71 1 (nI ((nA (σ.1 71 1) + 7) % 8))) 71 2 (nI (nA (σ.1 71 2) - 1))) 1 (73 + 35 * ((nA (σ.1 71 1) + 7) % 8))
theorem ctX3_take {κ : gK} {σ : gST} (hH : gHW σ) : gCt κ mX3_takeBack 4 [.ref (κ.2.1 + 71), .ref (κ.2.1 + 1)] σ (.inl none) (gTake σ) 0 := by
  have h1 : nA (σ.1 71 1) ≤ 7 := nA_le hH.1.2
  have h2 : nA (σ.1 71 2) ≤ 8 := nA_le hH.2.2
  exact ctX3_takeBack (by omega) h2 (nA_n hH.1.1) (nA_n hH.2.1)
def fUndo (σ : gST) : gO × gST := if σ.1 71 2 = 0 then (xISE, σ) else (rI ((gPut (gTake σ) 363 6 0).1 71 2), gPut (gTake σ) 363 6 0)
def fTakeProof (σ : gST) : gO × gST :=
  if gIp9 (σ.1 4) (σ.1 355) (gNg σ) 0 (gTl σ) = 0 then (xIAE, gPut σ 353 1 0)
  else (rI ((gPut (gLoop (gTkS σ) 0 (gTl σ) (gPut σ 363 6 (σ.1 353 1))) 353 1 0).1 363 6), gPut (gLoop (gTkS σ) 0 (gTl σ) (gPut σ 363 6 (σ.1 353 1))) 353 1 0)

set_option maxHeartbeats 4000000 in
set_option maxRecDepth 100000 in
theorem ctX10_undo {κ : gK} {σ : gST} (hH : gHW σ) : gCt κ mX10_undo 9 [.ref (κ.2.1 + 0)] σ (fUndo σ).1 (fUndo σ).2 1 := by
  refine ct_of (by decide +kernel) rfl (Nat.le_of_ble_eq_true rfl) rfl ?_
  by_cases h1 : σ.1 71 2 = 0
  · rw [show fUndo σ = _ from if_pos h1]
    refine go_aload_n (q := 1) (gDec iX10_undo_ok 0 rfl) rfl rfl rfl ?_
    refine go_getr (r' := 71) (q := 4) fX10_22 (gDec iX10_undo_ok 1 rfl) rfl (by decide) rfl ?_
    refine go_callV (n2 := 0) (q := 7) kX10_480 ctX3_size (gDec iX10_undo_ok 2 rfl) rfl rfl (by decide) rfl rfl rfl (Nat.le_of_ble_eq_true rfl) rfl (gFit_rm (by decide) (by decide)) rfl ?_
    refine go_if_ne (t := 21) (q := 10) (gDec iX10_undo_ok 3 rfl) (by decide) rfl (fun c7 => False.elim (c7 h1)) (fun c7 => ?_)
    exact go_throwW th_IllegalStateException (List.mem_of_getElem? (i := 39) rfl) rfl rfl (gDec iX10_undo_ok 4 rfl) (gDec iX10_undo_ok 5 rfl) (gDec iX10_undo_ok 6 rfl) (gDec iX10_undo_ok 7 rfl) (gDec iX10_undo_ok 8 rfl) (by decide) (by decide)
  · rw [show fUndo σ = _ from if_neg h1]
    refine go_aload_n (q := 1) (gDec iX10_undo_ok 0 rfl) rfl rfl rfl ?_
    refine go_getr (r' := 71) (q := 4) fX10_22 (gDec iX10_undo_ok 1 rfl) rfl (by decide) rfl ?_
    refine go_callV (n2 := 0) (q := 7) kX10_480 ctX3_size (gDec iX10_undo_ok 2 rfl) rfl rfl (by decide) rfl rfl rfl (Nat.le_of_ble_eq_true rfl) rfl (gFit_rm (by decide) (by decide)) rfl ?_
    refine go_if_ne (t := 21) (q := 10) (gDec iX10_undo_ok 3 rfl) (by decide) rfl (fun c7 => ?_) (fun c7 => False.elim (h1 c7))
    refine go_aload_n (q := 22) (gDec iX10_undo_ok 9 rfl) rfl rfl rfl ?_
    refine go_getr (r' := 71) (q := 25) fX10_22 (gDec iX10_undo_ok 10 rfl) rfl (by decide) rfl ?_
    refine go_aload_n (q := 26) (gDec iX10_undo_ok 11 rfl) rfl rfl rfl ?_
    refine go_getr (r' := 1) (q := 29) fX10_10 (gDec iX10_undo_ok 12 rfl) rfl (by decide) rfl ?_
    refine go_callV (n2 := 0) (q := 32) kX10_485 (ctX3_take hH) (gDec iX10_undo_ok 13 rfl) rfl rfl (by decide) rfl rfl rfl (Nat.le_of_ble_eq_true rfl) rfl (gFit_rm (by decide) (by decide)) rfl ?_
    refine go_aload_n (q := 33) (gDec iX10_undo_ok 14 rfl) rfl rfl rfl ?_
    refine go_getr (r' := 363) (q := 36) fX10_43 (gDec iX10_undo_ok 15 rfl) rfl (by decide) rfl ?_
    refine go_callV (n2 := 0) (q := 39) kX10_488 ctX6_forget (gDec iX10_undo_ok 16 rfl) rfl rfl (by decide) rfl rfl rfl (Nat.le_of_ble_eq_true rfl) rfl (gFit_rm (by decide) (by decide)) rfl ?_
    refine go_aload_n (q := 40) (gDec iX10_undo_ok 17 rfl) rfl rfl rfl ?_
    refine go_getr (r' := 71) (q := 43) fX10_22 (gDec iX10_undo_ok 18 rfl) rfl (by decide) rfl ?_
    refine go_callV (n2 := 0) (q := 46) kX10_480 ctX3_size (gDec iX10_undo_ok 19 rfl) rfl rfl (by decide) rfl rfl rfl (Nat.le_of_ble_eq_true rfl) rfl (gFit_rm (by decide) (by decide)) rfl ?_
    exact go_ireturn (gDec iX10_undo_ok 20 rfl) rfl rfl rfl rfl (by decide)

set_option maxHeartbeats 4000000 in
set_option maxRecDepth 100000 in
theorem ctX10_takeProof {κ : gK} {σ : gST} (hW : gDW σ) (hT : gTW σ) : gCt κ mX10_takeProof 9 [.ref (κ.2.1 + 0)] σ (fTakeProof σ).1 (fTakeProof σ).2 1 := by
  refine ct_of (by decide +kernel) rfl (Nat.le_of_ble_eq_true rfl) rfl ?_
  by_cases h1 : gIp9 (σ.1 4) (σ.1 355) (gNg σ) 0 (gTl σ) = 0
  · rw [show fTakeProof σ = _ from if_pos h1]
    refine go_aload_n (q := 1) (gDec iX10_takeProof_ok 0 rfl) rfl rfl rfl ?_
    refine go_getr (r' := 353) (q := 4) fX10_29 (gDec iX10_takeProof_ok 1 rfl) rfl (by decide) rfl ?_
    refine go_aload_n (q := 5) (gDec iX10_takeProof_ok 2 rfl) rfl rfl rfl ?_
    refine go_getr (r' := 1) (q := 8) fX10_10 (gDec iX10_takeProof_ok 3 rfl) rfl (by decide) rfl ?_
    refine go_getr (r' := 2) (q := 11) fX10_70 (gDec iX10_takeProof_ok 4 rfl) rfl (by decide) rfl ?_
    refine go_callS (n2 := 0) (q := 14) kX10_370 (ctX6_isProof hW hT) (gDec iX10_takeProof_ok 5 rfl) rfl rfl (Nat.le_of_ble_eq_true rfl) rfl (gFit_rm (by decide) (by decide)) rfl ?_
    refine go_istore_n (q := 15) (gDec iX10_takeProof_ok 6 rfl) rfl (by decide) rfl ?_
    refine go_iload_n (q := 16) (gDec iX10_takeProof_ok 7 rfl) rfl rfl rfl ?_
    refine go_if_eq (t := 37) (q := 19) (gDec iX10_takeProof_ok 8 rfl) (by decide) rfl (fun c16 => ?_) (fun c16 => False.elim (c16 h1))
    refine go_aload_n (q := 38) (gDec iX10_takeProof_ok 17 rfl) rfl rfl rfl ?_
    refine go_getr (r' := 353) (q := 41) fX10_29 (gDec iX10_takeProof_ok 18 rfl) rfl (by decide) rfl ?_
    refine go_callV (n2 := 0) (q := 44) kX10_378 ctX9_clear (gDec iX10_takeProof_ok 19 rfl) rfl rfl (by decide) rfl rfl rfl (Nat.le_of_ble_eq_true rfl) rfl (gFit_rm (by decide) (by decide)) rfl ?_
    refine go_iload_n (q := 45) (gDec iX10_takeProof_ok 20 rfl) rfl rfl rfl ?_
    refine go_if_ne (t := 59) (q := 48) (gDec iX10_takeProof_ok 21 rfl) (by decide) rfl (fun c45 => False.elim (c45 h1)) (fun c45 => ?_)
    exact go_throwW th_IllegalArgumentException (List.mem_of_getElem? (i := 27) rfl) rfl rfl (gDec iX10_takeProof_ok 22 rfl) (gDec iX10_takeProof_ok 23 rfl) (gDec iX10_takeProof_ok 24 rfl) (gDec iX10_takeProof_ok 25 rfl) (gDec iX10_takeProof_ok 26 rfl) (by decide) (by decide)
  · rw [show fTakeProof σ = _ from if_neg h1]
    refine go_aload_n (q := 1) (gDec iX10_takeProof_ok 0 rfl) rfl rfl rfl ?_
    refine go_getr (r' := 353) (q := 4) fX10_29 (gDec iX10_takeProof_ok 1 rfl) rfl (by decide) rfl ?_
    refine go_aload_n (q := 5) (gDec iX10_takeProof_ok 2 rfl) rfl rfl rfl ?_
    refine go_getr (r' := 1) (q := 8) fX10_10 (gDec iX10_takeProof_ok 3 rfl) rfl (by decide) rfl ?_
    refine go_getr (r' := 2) (q := 11) fX10_70 (gDec iX10_takeProof_ok 4 rfl) rfl (by decide) rfl ?_
    refine go_callS (n2 := 0) (q := 14) kX10_370 (ctX6_isProof hW hT) (gDec iX10_takeProof_ok 5 rfl) rfl rfl (Nat.le_of_ble_eq_true rfl) rfl (gFit_rm (by decide) (by decide)) rfl ?_
    refine go_istore_n (q := 15) (gDec iX10_takeProof_ok 6 rfl) rfl (by decide) rfl ?_
    refine go_iload_n (q := 16) (gDec iX10_takeProof_ok 7 rfl) rfl rfl rfl ?_
    refine go_if_eq (t := 37) (q := 19) (gDec iX10_takeProof_ok 8 rfl) (by decide) rfl (fun c16 => False.elim (h1 c16)) (fun c16 => ?_)
    refine go_aload_n (q := 20) (gDec iX10_takeProof_ok 9 rfl) rfl rfl rfl ?_
    refine go_getr (r' := 363) (q := 23) fX10_43 (gDec iX10_takeProof_ok 10 rfl) rfl (by decide) rfl ?_
    refine go_aload_n (q := 24) (gDec iX10_takeProof_ok 11 rfl) rfl rfl rfl ?_
    refine go_getr (r' := 353) (q := 27) fX10_29 (gDec iX10_takeProof_ok 12 rfl) rfl (by decide) rfl ?_
    refine go_aload_n (q := 28) (gDec iX10_takeProof_ok 13 rfl) rfl rfl rfl ?_
    refine go_getr (r' := 1) (q := 31) fX10_10 (gDec iX10_takeProof_ok 14 rfl) rfl (by decide) rfl ?_
    refine go_getr (r' := 2) (q := 34) fX10_70 (gDec iX10_takeProof_ok 15 rfl) rfl (by decide) rfl ?_
    refine go_callV (n2 := 0) (q := 37) kX10_374 (ctX6_take hW hT) (gDec iX10_takeProof_ok 16 rfl) rfl rfl (by decide) rfl rfl rfl (Nat.le_of_ble_eq_true rfl) rfl (gFit_rm (by decide) (by decide)) rfl ?_
    refine go_aload_n (q := 38) (gDec iX10_takeProof_ok 17 rfl) rfl rfl rfl ?_
    refine go_getr (r' := 353) (q := 41) fX10_29 (gDec iX10_takeProof_ok 18 rfl) rfl (by decide) rfl ?_
    refine go_callV (n2 := 0) (q := 44) kX10_378 ctX9_clear (gDec iX10_takeProof_ok 19 rfl) rfl rfl (by decide) rfl rfl rfl (Nat.le_of_ble_eq_true rfl) rfl (gFit_rm (by decide) (by decide)) rfl ?_
    refine go_iload_n (q := 45) (gDec iX10_takeProof_ok 20 rfl) rfl rfl rfl ?_
    refine go_if_ne (t := 59) (q := 48) (gDec iX10_takeProof_ok 21 rfl) (by decide) rfl (fun c45 => ?_) (fun c45 => False.elim (h1 c45))
    refine go_aload_n (q := 60) (gDec iX10_takeProof_ok 27 rfl) rfl rfl rfl ?_
    refine go_getr (r' := 363) (q := 63) fX10_43 (gDec iX10_takeProof_ok 28 rfl) rfl (by decide) rfl ?_
    refine go_callV (n2 := 0) (q := 66) kX10_383 ctX6_length (gDec iX10_takeProof_ok 29 rfl) rfl rfl (by decide) rfl rfl rfl (Nat.le_of_ble_eq_true rfl) rfl (gFit_rm (by decide) (by decide)) rfl ?_
    exact go_ireturn (gDec iX10_takeProof_ok 30 rfl) rfl rfl rfl rfl (by decide)
