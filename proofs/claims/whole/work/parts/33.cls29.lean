def gAcct (σ : gST) : Nat → Int32
  | 0 => σ.1 2 5
  | 1 => gLoop (fun g a => a + σ.1 6 g) 0 (gNg σ) 0
  | 2 => gLoop (fun g a => a + gLoop (fun c a => a + σ.1 8 (g * 3 + c)) 0 (gNc σ g) 0) 0 (gNg σ) 0
  | 3 => gLoop (fun at_ a => if gLe σ at_ = none then a else a + 1) 0 48 0
  | 4 => σ.1 20 4
  | 5 => σ.1 20 5
  | 6 => gLoop (fun g a => gLoop (fun h a => if gKn σ g h = 0 then a else a + 1) 0 (gNg σ) a) 0 (gNg σ) 0
  | 7 => gLoop (fun g a => a + σ.1 31 g) 0 24 0
  | _ => gLoop (fun g a => a + gAdv σ g) 0 (gNg σ) 0
def fAccount (σ : gST) (w : Int32) : gO × gST := if 0 ≤ w.toInt ∧ w.toInt ≤ 8 then (rI (gAcct σ (nA w)), σ) else (xIAE, σ)

set_option maxHeartbeats 4000000 in
set_option maxRecDepth 100000 in
theorem ctX10_account {κ : gK} {σ : gST} {w : Int32} (hW : gDW σ) : gCt κ mX10_account 9 [.ref (κ.2.1 + 0), .int w] σ (fAccount σ w).1 (fAccount σ w).2 1 := by
  refine ct_of (by decide +kernel) rfl (Nat.le_of_ble_eq_true rfl) rfl ?_
  have h24 := hW.ng24
  by_cases h1 : 0 ≤ w.toInt ∧ w.toInt ≤ 8
  · have hs : fAccount σ w = _ := if_pos h1
    rw [hs]
    obtain ⟨k, hk, rfl⟩ := gIn_ex (n := 9) (show 0 ≤ w.toInt ∧ w.toInt ≤ ((9 : Nat) : Int) - 1 from h1)
    rw [nA_nI (n := k) (by omega)]
    rcases (by omega : k = 0 ∨ k = 1 ∨ k = 2 ∨ k = 3 ∨ k = 4 ∨ k = 5 ∨ k = 6 ∨ k = 7 ∨ k = 8) with h9 | h9 | h9 | h9 | h9 | h9 | h9 | h9 | h9 <;> subst h9
    · skip
      refine go_iload_n (q := 1) (gDec iX10_account_ok 0 rfl) rfl rfl rfl ?_
      refine go_i2l (q := 2) (gDec iX10_account_ok 1 rfl) rfl ?_
      refine go_lconst (v := 0) (q := 3) (gDec iX10_account_ok 2 rfl) (by decide) rfl ?_
      refine go_ldc2 (q := 6) wX10_443 (gDec iX10_account_ok 3 rfl) rfl ?_
      refine go_callS (n2 := 0) (q := 9) kX10_59 ctX10_isWithin (gDec iX10_account_ok 4 rfl) rfl rfl (Nat.le_of_ble_eq_true rfl) rfl (gFit_rm (by decide) (by decide)) rfl ?_
      refine go_top (v' := 1) (gWi_t (by rw [i2l_toInt]; exact h1)) ?_
      refine go_if_ne (t := 23) (q := 12) (gDec iX10_account_ok 5 rfl) (by decide) rfl (fun c9 => ?_) (fun c9 => False.elim (absurd c9 (by decide)))
      refine go_iload_n (q := 24) (gDec iX10_account_ok 11 rfl) rfl rfl rfl ?_
      refine go_tableIn (off := 48) (t := 72) (gDec iX10_account_ok 12 rfl) (by decide) (by decide) rfl (by decide) ?_
      refine go_aload_n (q := 73) (gDec iX10_account_ok 13 rfl) rfl rfl rfl ?_
      refine go_getr (r' := 1) (q := 76) fX10_10 (gDec iX10_account_ok 14 rfl) rfl (by decide) rfl ?_
      refine go_getr (r' := 2) (q := 79) fX10_70 (gDec iX10_account_ok 15 rfl) rfl (by decide) rfl ?_
      refine go_callV (n2 := 0) (q := 82) kX10_432 ctX5_glyphCount (gDec iX10_account_ok 16 rfl) rfl rfl (by decide) rfl rfl rfl (Nat.le_of_ble_eq_true rfl) rfl (gFit_rm (by decide) (by decide)) rfl ?_
      exact go_ireturn (gDec iX10_account_ok 17 rfl) rfl rfl rfl rfl (by decide)
    · skip
      refine go_iload_n (q := 1) (gDec iX10_account_ok 0 rfl) rfl rfl rfl ?_
      refine go_i2l (q := 2) (gDec iX10_account_ok 1 rfl) rfl ?_
      refine go_lconst (v := 0) (q := 3) (gDec iX10_account_ok 2 rfl) (by decide) rfl ?_
      refine go_ldc2 (q := 6) wX10_443 (gDec iX10_account_ok 3 rfl) rfl ?_
      refine go_callS (n2 := 0) (q := 9) kX10_59 ctX10_isWithin (gDec iX10_account_ok 4 rfl) rfl rfl (Nat.le_of_ble_eq_true rfl) rfl (gFit_rm (by decide) (by decide)) rfl ?_
      refine go_top (v' := 1) (gWi_t (by rw [i2l_toInt]; exact h1)) ?_
      refine go_if_ne (t := 23) (q := 12) (gDec iX10_account_ok 5 rfl) (by decide) rfl (fun c9 => ?_) (fun c9 => False.elim (absurd c9 (by decide)))
      refine go_iload_n (q := 24) (gDec iX10_account_ok 11 rfl) rfl rfl rfl ?_
      refine go_tableIn (off := 59) (t := 83) (gDec iX10_account_ok 12 rfl) (by decide) (by decide) rfl (by decide) ?_
      refine go_aload_n (q := 84) (gDec iX10_account_ok 18 rfl) rfl rfl rfl ?_
      refine go_getr (r' := 1) (q := 87) fX10_10 (gDec iX10_account_ok 19 rfl) rfl (by decide) rfl ?_
      refine go_getr (r' := 2) (q := 90) fX10_70 (gDec iX10_account_ok 20 rfl) rfl (by decide) rfl ?_
      refine go_callV (n2 := 0) (q := 93) kX10_447 (ctX5_contourSum (N := gNg σ) h24 hW.ng) (gDec iX10_account_ok 21 rfl) rfl rfl (by decide) rfl rfl rfl (Nat.le_of_ble_eq_true rfl) rfl (gFit_rm (by decide) (by decide)) rfl ?_
      exact go_ireturn (gDec iX10_account_ok 22 rfl) rfl rfl rfl rfl (by decide)
    · skip
      refine go_iload_n (q := 1) (gDec iX10_account_ok 0 rfl) rfl rfl rfl ?_
      refine go_i2l (q := 2) (gDec iX10_account_ok 1 rfl) rfl ?_
      refine go_lconst (v := 0) (q := 3) (gDec iX10_account_ok 2 rfl) (by decide) rfl ?_
      refine go_ldc2 (q := 6) wX10_443 (gDec iX10_account_ok 3 rfl) rfl ?_
      refine go_callS (n2 := 0) (q := 9) kX10_59 ctX10_isWithin (gDec iX10_account_ok 4 rfl) rfl rfl (Nat.le_of_ble_eq_true rfl) rfl (gFit_rm (by decide) (by decide)) rfl ?_
      refine go_top (v' := 1) (gWi_t (by rw [i2l_toInt]; exact h1)) ?_
      refine go_if_ne (t := 23) (q := 12) (gDec iX10_account_ok 5 rfl) (by decide) rfl (fun c9 => ?_) (fun c9 => False.elim (absurd c9 (by decide)))
      refine go_iload_n (q := 24) (gDec iX10_account_ok 11 rfl) rfl rfl rfl ?_
      refine go_tableIn (off := 70) (t := 94) (gDec iX10_account_ok 12 rfl) (by decide) (by decide) rfl (by decide) ?_
      refine go_aload_n (q := 95) (gDec iX10_account_ok 23 rfl) rfl rfl rfl ?_
      refine go_getr (r' := 1) (q := 98) fX10_10 (gDec iX10_account_ok 24 rfl) rfl (by decide) rfl ?_
      refine go_getr (r' := 2) (q := 101) fX10_70 (gDec iX10_account_ok 25 rfl) rfl (by decide) rfl ?_
      refine go_callV (n2 := 0) (q := 104) kX10_450 (ctX5_pointSum (N := gNg σ) (cm := gNc σ) h24 hW.ng (fun g hg => ⟨hW.nc (by omega), hW.nc3 (by omega)⟩)) (gDec iX10_account_ok 26 rfl) rfl rfl (by decide) rfl rfl rfl (Nat.le_of_ble_eq_true rfl) rfl (gFit_rm (by decide) (by decide)) rfl ?_
      exact go_ireturn (gDec iX10_account_ok 27 rfl) rfl rfl rfl rfl (by decide)
    · skip
      refine go_iload_n (q := 1) (gDec iX10_account_ok 0 rfl) rfl rfl rfl ?_
      refine go_i2l (q := 2) (gDec iX10_account_ok 1 rfl) rfl ?_
      refine go_lconst (v := 0) (q := 3) (gDec iX10_account_ok 2 rfl) (by decide) rfl ?_
      refine go_ldc2 (q := 6) wX10_443 (gDec iX10_account_ok 3 rfl) rfl ?_
      refine go_callS (n2 := 0) (q := 9) kX10_59 ctX10_isWithin (gDec iX10_account_ok 4 rfl) rfl rfl (Nat.le_of_ble_eq_true rfl) rfl (gFit_rm (by decide) (by decide)) rfl ?_
      refine go_top (v' := 1) (gWi_t (by rw [i2l_toInt]; exact h1)) ?_
      refine go_if_ne (t := 23) (q := 12) (gDec iX10_account_ok 5 rfl) (by decide) rfl (fun c9 => ?_) (fun c9 => False.elim (absurd c9 (by decide)))
      refine go_iload_n (q := 24) (gDec iX10_account_ok 11 rfl) rfl rfl rfl ?_
      refine go_tableIn (off := 81) (t := 105) (gDec iX10_account_ok 12 rfl) (by decide) (by decide) rfl (by decide) ?_
      refine go_aload_n (q := 106) (gDec iX10_account_ok 28 rfl) rfl rfl rfl ?_
      refine go_getr (r' := 1) (q := 109) fX10_10 (gDec iX10_account_ok 29 rfl) rfl (by decide) rfl ?_
      refine go_getr (r' := 13) (q := 112) fX10_199 (gDec iX10_account_ok 30 rfl) rfl (by decide) rfl ?_
      refine go_callV (n2 := 0) (q := 115) kX10_453 (ctX0_ruleSum (ld := gLe σ) hW.le hW.le48) (gDec iX10_account_ok 31 rfl) rfl rfl (by decide) rfl rfl rfl (Nat.le_of_ble_eq_true rfl) rfl (gFit_rm (by decide) (by decide)) rfl ?_
      exact go_ireturn (gDec iX10_account_ok 32 rfl) rfl rfl rfl rfl (by decide)
    · skip
      refine go_iload_n (q := 1) (gDec iX10_account_ok 0 rfl) rfl rfl rfl ?_
      refine go_i2l (q := 2) (gDec iX10_account_ok 1 rfl) rfl ?_
      refine go_lconst (v := 0) (q := 3) (gDec iX10_account_ok 2 rfl) (by decide) rfl ?_
      refine go_ldc2 (q := 6) wX10_443 (gDec iX10_account_ok 3 rfl) rfl ?_
      refine go_callS (n2 := 0) (q := 9) kX10_59 ctX10_isWithin (gDec iX10_account_ok 4 rfl) rfl rfl (Nat.le_of_ble_eq_true rfl) rfl (gFit_rm (by decide) (by decide)) rfl ?_
      refine go_top (v' := 1) (gWi_t (by rw [i2l_toInt]; exact h1)) ?_
      refine go_if_ne (t := 23) (q := 12) (gDec iX10_account_ok 5 rfl) (by decide) rfl (fun c9 => ?_) (fun c9 => False.elim (absurd c9 (by decide)))
      refine go_iload_n (q := 24) (gDec iX10_account_ok 11 rfl) rfl rfl rfl ?_
      refine go_tableIn (off := 92) (t := 116) (gDec iX10_account_ok 12 rfl) (by decide) (by decide) rfl (by decide) ?_
      refine go_aload_n (q := 117) (gDec iX10_account_ok 33 rfl) rfl rfl rfl ?_
      refine go_getr (r' := 1) (q := 120) fX10_10 (gDec iX10_account_ok 34 rfl) rfl (by decide) rfl ?_
      refine go_getr (r' := 20) (q := 123) fX10_153 (gDec iX10_account_ok 35 rfl) rfl (by decide) rfl ?_
      refine go_callV (n2 := 0) (q := 126) kX10_269 ctX4_classKernCount (gDec iX10_account_ok 36 rfl) rfl rfl (by decide) rfl rfl rfl (Nat.le_of_ble_eq_true rfl) rfl (gFit_rm (by decide) (by decide)) rfl ?_
      exact go_ireturn (gDec iX10_account_ok 37 rfl) rfl rfl rfl rfl (by decide)
    · skip
      refine go_iload_n (q := 1) (gDec iX10_account_ok 0 rfl) rfl rfl rfl ?_
      refine go_i2l (q := 2) (gDec iX10_account_ok 1 rfl) rfl ?_
      refine go_lconst (v := 0) (q := 3) (gDec iX10_account_ok 2 rfl) (by decide) rfl ?_
      refine go_ldc2 (q := 6) wX10_443 (gDec iX10_account_ok 3 rfl) rfl ?_
      refine go_callS (n2 := 0) (q := 9) kX10_59 ctX10_isWithin (gDec iX10_account_ok 4 rfl) rfl rfl (Nat.le_of_ble_eq_true rfl) rfl (gFit_rm (by decide) (by decide)) rfl ?_
      refine go_top (v' := 1) (gWi_t (by rw [i2l_toInt]; exact h1)) ?_
      refine go_if_ne (t := 23) (q := 12) (gDec iX10_account_ok 5 rfl) (by decide) rfl (fun c9 => ?_) (fun c9 => False.elim (absurd c9 (by decide)))
      refine go_iload_n (q := 24) (gDec iX10_account_ok 11 rfl) rfl rfl rfl ?_
      refine go_tableIn (off := 103) (t := 127) (gDec iX10_account_ok 12 rfl) (by decide) (by decide) rfl (by decide) ?_
      refine go_aload_n (q := 128) (gDec iX10_account_ok 38 rfl) rfl rfl rfl ?_
      refine go_getr (r' := 1) (q := 131) fX10_10 (gDec iX10_account_ok 39 rfl) rfl (by decide) rfl ?_
      refine go_getr (r' := 20) (q := 134) fX10_153 (gDec iX10_account_ok 40 rfl) rfl (by decide) rfl ?_
      refine go_callV (n2 := 0) (q := 137) kX10_273 ctX4_pairKernCount (gDec iX10_account_ok 41 rfl) rfl rfl (by decide) rfl rfl rfl (Nat.le_of_ble_eq_true rfl) rfl (gFit_rm (by decide) (by decide)) rfl ?_
      exact go_ireturn (gDec iX10_account_ok 42 rfl) rfl rfl rfl rfl (by decide)
    · skip
      refine go_iload_n (q := 1) (gDec iX10_account_ok 0 rfl) rfl rfl rfl ?_
      refine go_i2l (q := 2) (gDec iX10_account_ok 1 rfl) rfl ?_
      refine go_lconst (v := 0) (q := 3) (gDec iX10_account_ok 2 rfl) (by decide) rfl ?_
      refine go_ldc2 (q := 6) wX10_443 (gDec iX10_account_ok 3 rfl) rfl ?_
      refine go_callS (n2 := 0) (q := 9) kX10_59 ctX10_isWithin (gDec iX10_account_ok 4 rfl) rfl rfl (Nat.le_of_ble_eq_true rfl) rfl (gFit_rm (by decide) (by decide)) rfl ?_
      refine go_top (v' := 1) (gWi_t (by rw [i2l_toInt]; exact h1)) ?_
      refine go_if_ne (t := 23) (q := 12) (gDec iX10_account_ok 5 rfl) (by decide) rfl (fun c9 => ?_) (fun c9 => False.elim (absurd c9 (by decide)))
      refine go_iload_n (q := 24) (gDec iX10_account_ok 11 rfl) rfl rfl rfl ?_
      refine go_tableIn (off := 114) (t := 138) (gDec iX10_account_ok 12 rfl) (by decide) (by decide) rfl (by decide) ?_
      refine go_aload_n (q := 139) (gDec iX10_account_ok 43 rfl) rfl rfl rfl ?_
      refine go_getr (r' := 1) (q := 142) fX10_10 (gDec iX10_account_ok 44 rfl) rfl (by decide) rfl ?_
      refine go_callV (n2 := 0) (q := 145) kX10_456 (ctX1_kernedPairSum hW) (gDec iX10_account_ok 45 rfl) rfl rfl (by decide) rfl rfl rfl (Nat.le_of_ble_eq_true rfl) rfl (gFit_rm (by decide) (by decide)) rfl ?_
      exact go_ireturn (gDec iX10_account_ok 46 rfl) rfl rfl rfl rfl (by decide)
    · skip
      refine go_iload_n (q := 1) (gDec iX10_account_ok 0 rfl) rfl rfl rfl ?_
      refine go_i2l (q := 2) (gDec iX10_account_ok 1 rfl) rfl ?_
      refine go_lconst (v := 0) (q := 3) (gDec iX10_account_ok 2 rfl) (by decide) rfl ?_
      refine go_ldc2 (q := 6) wX10_443 (gDec iX10_account_ok 3 rfl) rfl ?_
      refine go_callS (n2 := 0) (q := 9) kX10_59 ctX10_isWithin (gDec iX10_account_ok 4 rfl) rfl rfl (Nat.le_of_ble_eq_true rfl) rfl (gFit_rm (by decide) (by decide)) rfl ?_
      refine go_top (v' := 1) (gWi_t (by rw [i2l_toInt]; exact h1)) ?_
      refine go_if_ne (t := 23) (q := 12) (gDec iX10_account_ok 5 rfl) (by decide) rfl (fun c9 => ?_) (fun c9 => False.elim (absurd c9 (by decide)))
      refine go_iload_n (q := 24) (gDec iX10_account_ok 11 rfl) rfl rfl rfl ?_
      refine go_tableIn (off := 122) (t := 146) (gDec iX10_account_ok 12 rfl) (by decide) (by decide) rfl (by decide) ?_
      refine go_aload_n (q := 147) (gDec iX10_account_ok 47 rfl) rfl rfl rfl ?_
      refine go_getr (r' := 1) (q := 150) fX10_10 (gDec iX10_account_ok 48 rfl) rfl (by decide) rfl ?_
      refine go_getr (r' := 29) (q := 153) fX10_162 (gDec iX10_account_ok 49 rfl) rfl (by decide) rfl ?_
      refine go_callV (n2 := 0) (q := 156) kX10_459 ctX8_sum (gDec iX10_account_ok 50 rfl) rfl rfl (by decide) rfl rfl rfl (Nat.le_of_ble_eq_true rfl) rfl (gFit_rm (by decide) (by decide)) rfl ?_
      exact go_ireturn (gDec iX10_account_ok 51 rfl) rfl rfl rfl rfl (by decide)
    · skip
      refine go_iload_n (q := 1) (gDec iX10_account_ok 0 rfl) rfl rfl rfl ?_
      refine go_i2l (q := 2) (gDec iX10_account_ok 1 rfl) rfl ?_
      refine go_lconst (v := 0) (q := 3) (gDec iX10_account_ok 2 rfl) (by decide) rfl ?_
      refine go_ldc2 (q := 6) wX10_443 (gDec iX10_account_ok 3 rfl) rfl ?_
      refine go_callS (n2 := 0) (q := 9) kX10_59 ctX10_isWithin (gDec iX10_account_ok 4 rfl) rfl rfl (Nat.le_of_ble_eq_true rfl) rfl (gFit_rm (by decide) (by decide)) rfl ?_
      refine go_top (v' := 1) (gWi_t (by rw [i2l_toInt]; exact h1)) ?_
      refine go_if_ne (t := 23) (q := 12) (gDec iX10_account_ok 5 rfl) (by decide) rfl (fun c9 => ?_) (fun c9 => False.elim (absurd c9 (by decide)))
      refine go_iload_n (q := 24) (gDec iX10_account_ok 11 rfl) rfl rfl rfl ?_
      refine go_tableOut (t := 157) (gDec iX10_account_ok 12 rfl) (by decide) (by decide) ?_
      refine go_aload_n (q := 158) (gDec iX10_account_ok 52 rfl) rfl rfl rfl ?_
      refine go_getr (r' := 1) (q := 161) fX10_10 (gDec iX10_account_ok 53 rfl) rfl (by decide) rfl ?_
      refine go_callV (n2 := 0) (q := 164) kX10_440 (ctX1_advanceSum hW) (gDec iX10_account_ok 54 rfl) rfl rfl (by decide) rfl rfl rfl (Nat.le_of_ble_eq_true rfl) rfl (gFit_rm (by decide) (by decide)) rfl ?_
      exact go_ireturn (gDec iX10_account_ok 55 rfl) rfl rfl rfl rfl (by decide)
  · rw [show fAccount σ w = _ from if_neg h1]
    refine go_iload_n (q := 1) (gDec iX10_account_ok 0 rfl) rfl rfl rfl ?_
    refine go_i2l (q := 2) (gDec iX10_account_ok 1 rfl) rfl ?_
    refine go_lconst (v := 0) (q := 3) (gDec iX10_account_ok 2 rfl) (by decide) rfl ?_
    refine go_ldc2 (q := 6) wX10_443 (gDec iX10_account_ok 3 rfl) rfl ?_
    refine go_callS (n2 := 0) (q := 9) kX10_59 ctX10_isWithin (gDec iX10_account_ok 4 rfl) rfl rfl (Nat.le_of_ble_eq_true rfl) rfl (gFit_rm (by decide) (by decide)) rfl ?_
    refine go_top (v' := 0) (gWi_f (by rw [i2l_toInt]; exact h1)) ?_
    refine go_if_ne (t := 23) (q := 12) (gDec iX10_account_ok 5 rfl) (by decide) rfl (fun c9 => False.elim (c9 rfl)) (fun c9 => ?_)
    exact go_throwW th_IllegalArgumentException (List.mem_of_getElem? (i := 36) rfl) rfl rfl (gDec iX10_account_ok 6 rfl) (gDec iX10_account_ok 7 rfl) (gDec iX10_account_ok 8 rfl) (gDec iX10_account_ok 9 rfl) (gDec iX10_account_ok 10 rfl) (by decide) (by decide)

def gGly (σ : gST) (g : Nat) : Nat → Int32
  | 0 => σ.1 4 g
  | 1 => σ.1 6 g
  | 2 => gLoop (fun c a => a + σ.1 8 (g * 3 + c)) 0 (gNc σ g) 0
  | 3 => gEx false (σ.1 10) (gNp σ g) g (gNc σ g)
  | 4 => gEx true (σ.1 10) (gNp σ g) g (gNc σ g)
  | 5 => gAdv σ g
  | 6 => σ.1 22 g
  | 7 => σ.1 24 g
  | 8 => σ.1 31 g
  | _ => gLoop (fun c a => a + gAr (σ.1 10) (σ.1 12) ((g * 3 + c) * 12) (gNp σ g c)) 0 (gNc σ g) 0
def fGlyph (σ : gST) (g w : Int32) : gO × gST := if gInG σ g then
    if 0 ≤ w.toInt ∧ w.toInt ≤ 9 then (rI (gGly σ (nA g) (nA w)), σ) else (xIAE, σ)
  else (xIOB, σ)

set_option maxHeartbeats 4000000 in
set_option maxRecDepth 100000 in
theorem ctX10_glyph {κ : gK} {σ : gST} {g w : Int32} (hW : gDW σ) : gCt κ mX10_glyph 9 [.ref (κ.2.1 + 0), .int g, .int w] σ (fGlyph σ g w).1 (fGlyph σ g w).2 1 := by
  refine ct_of (by decide +kernel) rfl (Nat.le_of_ble_eq_true rfl) rfl ?_
  have h24 := hW.ng24
  by_cases h1 : gInG σ g
  · have hs : fGlyph σ g w = _ := if_pos h1
    rw [hs]
    obtain ⟨i, hi, rfl⟩ := gInG.ex h1
    rw [nA_nI (n := i) (by omega)]
    by_cases h2 : 0 ≤ w.toInt ∧ w.toInt ≤ 9
    · rw [if_pos h2]
      obtain ⟨k, hk, rfl⟩ := gIn_ex (n := 10) (show 0 ≤ w.toInt ∧ w.toInt ≤ ((10 : Nat) : Int) - 1 from h2)
      rw [nA_nI (n := k) (by omega)]
      rcases (by omega : k = 0 ∨ k = 1 ∨ k = 2 ∨ k = 3 ∨ k = 4 ∨ k = 5 ∨ k = 6 ∨ k = 7 ∨ k = 8 ∨ k = 9) with h9 | h9 | h9 | h9 | h9 | h9 | h9 | h9 | h9 | h9 <;> subst h9
      · skip
        refine go_aload_n (q := 1) (gDec iX10_glyph_ok 0 rfl) rfl rfl rfl ?_
        refine go_iload_n (q := 2) (gDec iX10_glyph_ok 1 rfl) rfl rfl rfl ?_
        refine go_callV (n2 := 0) (q := 5) kX10_96 (ctX10_rG hW hi) (gDec iX10_glyph_ok 2 rfl) rfl rfl (by decide) rfl rfl rfl (Nat.le_of_ble_eq_true rfl) rfl (gFit_rm (by decide) (by decide)) rfl ?_
        refine go_iload_n (q := 6) (gDec iX10_glyph_ok 3 rfl) rfl rfl rfl ?_
        refine go_i2l (q := 7) (gDec iX10_glyph_ok 4 rfl) rfl ?_
        refine go_lconst (v := 0) (q := 8) (gDec iX10_glyph_ok 5 rfl) (by decide) rfl ?_
        refine go_ldc2 (q := 11) wX10_140 (gDec iX10_glyph_ok 6 rfl) rfl ?_
        refine go_callS (n2 := 0) (q := 14) kX10_59 ctX10_isWithin (gDec iX10_glyph_ok 7 rfl) rfl rfl (Nat.le_of_ble_eq_true rfl) rfl (gFit_rm (by decide) (by decide)) rfl ?_
        refine go_top (v' := 1) (gWi_t (by rw [i2l_toInt]; exact h2)) ?_
        refine go_if_ne (t := 27) (q := 17) (gDec iX10_glyph_ok 8 rfl) (by decide) rfl (fun c14 => ?_) (fun c14 => False.elim (absurd c14 (by decide)))
        refine go_iload_n (q := 28) (gDec iX10_glyph_ok 14 rfl) rfl rfl rfl ?_
        refine go_tableIn (off := 52) (t := 80) (gDec iX10_glyph_ok 15 rfl) (by decide) (by decide) rfl (by decide) ?_
        refine go_aload_n (q := 81) (gDec iX10_glyph_ok 16 rfl) rfl rfl rfl ?_
        refine go_getr (r' := 1) (q := 84) fX10_10 (gDec iX10_glyph_ok 17 rfl) rfl (by decide) rfl ?_
        refine go_getr (r' := 2) (q := 87) fX10_70 (gDec iX10_glyph_ok 18 rfl) rfl (by decide) rfl ?_
        refine go_iload_n (q := 88) (gDec iX10_glyph_ok 19 rfl) rfl rfl rfl ?_
        refine go_callV (n2 := 0) (q := 91) kX10_144 (ctX5_codeOf (g := i) (by omega)) (gDec iX10_glyph_ok 20 rfl) rfl rfl (by decide) rfl rfl rfl (Nat.le_of_ble_eq_true rfl) rfl (gFit_rm (by decide) (by decide)) rfl ?_
        exact go_ireturn (gDec iX10_glyph_ok 21 rfl) rfl rfl rfl rfl (by decide)
      · skip
        refine go_aload_n (q := 1) (gDec iX10_glyph_ok 0 rfl) rfl rfl rfl ?_
        refine go_iload_n (q := 2) (gDec iX10_glyph_ok 1 rfl) rfl rfl rfl ?_
        refine go_callV (n2 := 0) (q := 5) kX10_96 (ctX10_rG hW hi) (gDec iX10_glyph_ok 2 rfl) rfl rfl (by decide) rfl rfl rfl (Nat.le_of_ble_eq_true rfl) rfl (gFit_rm (by decide) (by decide)) rfl ?_
        refine go_iload_n (q := 6) (gDec iX10_glyph_ok 3 rfl) rfl rfl rfl ?_
        refine go_i2l (q := 7) (gDec iX10_glyph_ok 4 rfl) rfl ?_
        refine go_lconst (v := 0) (q := 8) (gDec iX10_glyph_ok 5 rfl) (by decide) rfl ?_
        refine go_ldc2 (q := 11) wX10_140 (gDec iX10_glyph_ok 6 rfl) rfl ?_
        refine go_callS (n2 := 0) (q := 14) kX10_59 ctX10_isWithin (gDec iX10_glyph_ok 7 rfl) rfl rfl (Nat.le_of_ble_eq_true rfl) rfl (gFit_rm (by decide) (by decide)) rfl ?_
        refine go_top (v' := 1) (gWi_t (by rw [i2l_toInt]; exact h2)) ?_
        refine go_if_ne (t := 27) (q := 17) (gDec iX10_glyph_ok 8 rfl) (by decide) rfl (fun c14 => ?_) (fun c14 => False.elim (absurd c14 (by decide)))
        refine go_iload_n (q := 28) (gDec iX10_glyph_ok 14 rfl) rfl rfl rfl ?_
        refine go_tableIn (off := 64) (t := 92) (gDec iX10_glyph_ok 15 rfl) (by decide) (by decide) rfl (by decide) ?_
        refine go_aload_n (q := 93) (gDec iX10_glyph_ok 22 rfl) rfl rfl rfl ?_
        refine go_getr (r' := 1) (q := 96) fX10_10 (gDec iX10_glyph_ok 23 rfl) rfl (by decide) rfl ?_
        refine go_getr (r' := 2) (q := 99) fX10_70 (gDec iX10_glyph_ok 24 rfl) rfl (by decide) rfl ?_
        refine go_iload_n (q := 100) (gDec iX10_glyph_ok 25 rfl) rfl rfl rfl ?_
        refine go_callV (n2 := 0) (q := 103) kX10_106 (ctX5_contourCount (g := i) (by omega)) (gDec iX10_glyph_ok 26 rfl) rfl rfl (by decide) rfl rfl rfl (Nat.le_of_ble_eq_true rfl) rfl (gFit_rm (by decide) (by decide)) rfl ?_
        exact go_ireturn (gDec iX10_glyph_ok 27 rfl) rfl rfl rfl rfl (by decide)
      · skip
        refine go_aload_n (q := 1) (gDec iX10_glyph_ok 0 rfl) rfl rfl rfl ?_
        refine go_iload_n (q := 2) (gDec iX10_glyph_ok 1 rfl) rfl rfl rfl ?_
        refine go_callV (n2 := 0) (q := 5) kX10_96 (ctX10_rG hW hi) (gDec iX10_glyph_ok 2 rfl) rfl rfl (by decide) rfl rfl rfl (Nat.le_of_ble_eq_true rfl) rfl (gFit_rm (by decide) (by decide)) rfl ?_
        refine go_iload_n (q := 6) (gDec iX10_glyph_ok 3 rfl) rfl rfl rfl ?_
        refine go_i2l (q := 7) (gDec iX10_glyph_ok 4 rfl) rfl ?_
        refine go_lconst (v := 0) (q := 8) (gDec iX10_glyph_ok 5 rfl) (by decide) rfl ?_
        refine go_ldc2 (q := 11) wX10_140 (gDec iX10_glyph_ok 6 rfl) rfl ?_
        refine go_callS (n2 := 0) (q := 14) kX10_59 ctX10_isWithin (gDec iX10_glyph_ok 7 rfl) rfl rfl (Nat.le_of_ble_eq_true rfl) rfl (gFit_rm (by decide) (by decide)) rfl ?_
        refine go_top (v' := 1) (gWi_t (by rw [i2l_toInt]; exact h2)) ?_
        refine go_if_ne (t := 27) (q := 17) (gDec iX10_glyph_ok 8 rfl) (by decide) rfl (fun c14 => ?_) (fun c14 => False.elim (absurd c14 (by decide)))
        refine go_iload_n (q := 28) (gDec iX10_glyph_ok 14 rfl) rfl rfl rfl ?_
        refine go_tableIn (off := 76) (t := 104) (gDec iX10_glyph_ok 15 rfl) (by decide) (by decide) rfl (by decide) ?_
        refine go_aload_n (q := 105) (gDec iX10_glyph_ok 28 rfl) rfl rfl rfl ?_
        refine go_getr (r' := 1) (q := 108) fX10_10 (gDec iX10_glyph_ok 29 rfl) rfl (by decide) rfl ?_
        refine go_getr (r' := 2) (q := 111) fX10_70 (gDec iX10_glyph_ok 30 rfl) rfl (by decide) rfl ?_
        refine go_iload_n (q := 112) (gDec iX10_glyph_ok 31 rfl) rfl rfl rfl ?_
        refine go_callV (n2 := 0) (q := 115) kX10_147 (ctX5_pointCountOf (g := i) (N := gNc σ i) (by omega) (hW.nc3 (by omega)) (hW.nc (by omega))) (gDec iX10_glyph_ok 32 rfl) rfl rfl (by decide) rfl rfl rfl (Nat.le_of_ble_eq_true rfl) rfl (gFit_rm (by decide) (by decide)) rfl ?_
        exact go_ireturn (gDec iX10_glyph_ok 33 rfl) rfl rfl rfl rfl (by decide)
      · skip
        refine go_aload_n (q := 1) (gDec iX10_glyph_ok 0 rfl) rfl rfl rfl ?_
        refine go_iload_n (q := 2) (gDec iX10_glyph_ok 1 rfl) rfl rfl rfl ?_
        refine go_callV (n2 := 0) (q := 5) kX10_96 (ctX10_rG hW hi) (gDec iX10_glyph_ok 2 rfl) rfl rfl (by decide) rfl rfl rfl (Nat.le_of_ble_eq_true rfl) rfl (gFit_rm (by decide) (by decide)) rfl ?_
        refine go_iload_n (q := 6) (gDec iX10_glyph_ok 3 rfl) rfl rfl rfl ?_
        refine go_i2l (q := 7) (gDec iX10_glyph_ok 4 rfl) rfl ?_
        refine go_lconst (v := 0) (q := 8) (gDec iX10_glyph_ok 5 rfl) (by decide) rfl ?_
        refine go_ldc2 (q := 11) wX10_140 (gDec iX10_glyph_ok 6 rfl) rfl ?_
        refine go_callS (n2 := 0) (q := 14) kX10_59 ctX10_isWithin (gDec iX10_glyph_ok 7 rfl) rfl rfl (Nat.le_of_ble_eq_true rfl) rfl (gFit_rm (by decide) (by decide)) rfl ?_
        refine go_top (v' := 1) (gWi_t (by rw [i2l_toInt]; exact h2)) ?_
        refine go_if_ne (t := 27) (q := 17) (gDec iX10_glyph_ok 8 rfl) (by decide) rfl (fun c14 => ?_) (fun c14 => False.elim (absurd c14 (by decide)))
        refine go_iload_n (q := 28) (gDec iX10_glyph_ok 14 rfl) rfl rfl rfl ?_
        refine go_tableIn (off := 88) (t := 116) (gDec iX10_glyph_ok 15 rfl) (by decide) (by decide) rfl (by decide) ?_
        refine go_aload_n (q := 117) (gDec iX10_glyph_ok 34 rfl) rfl rfl rfl ?_
        refine go_getr (r' := 1) (q := 120) fX10_10 (gDec iX10_glyph_ok 35 rfl) rfl (by decide) rfl ?_
        refine go_getr (r' := 2) (q := 123) fX10_70 (gDec iX10_glyph_ok 36 rfl) rfl (by decide) rfl ?_
        refine go_iload_n (q := 124) (gDec iX10_glyph_ok 37 rfl) rfl rfl rfl ?_
        refine go_iconst (v := 0) (q := 125) (gDec iX10_glyph_ok 38 rfl) (by decide) rfl ?_
        refine go_callV (n2 := 0) (q := 128) kX10_130 (ctX5_leastx (g := i) (N := gNc σ i) (pm := gNp σ i) (by omega) (hW.nc3 (by omega)) (hW.nc (by omega)) (hW.pm (by omega))) (gDec iX10_glyph_ok 39 rfl) rfl rfl (by decide) rfl rfl rfl (Nat.le_of_ble_eq_true rfl) rfl (gFit_rm (by decide) (by decide)) rfl ?_
        exact go_ireturn (gDec iX10_glyph_ok 40 rfl) rfl rfl rfl rfl (by decide)
      · skip
        refine go_aload_n (q := 1) (gDec iX10_glyph_ok 0 rfl) rfl rfl rfl ?_
        refine go_iload_n (q := 2) (gDec iX10_glyph_ok 1 rfl) rfl rfl rfl ?_
        refine go_callV (n2 := 0) (q := 5) kX10_96 (ctX10_rG hW hi) (gDec iX10_glyph_ok 2 rfl) rfl rfl (by decide) rfl rfl rfl (Nat.le_of_ble_eq_true rfl) rfl (gFit_rm (by decide) (by decide)) rfl ?_
        refine go_iload_n (q := 6) (gDec iX10_glyph_ok 3 rfl) rfl rfl rfl ?_
        refine go_i2l (q := 7) (gDec iX10_glyph_ok 4 rfl) rfl ?_
        refine go_lconst (v := 0) (q := 8) (gDec iX10_glyph_ok 5 rfl) (by decide) rfl ?_
        refine go_ldc2 (q := 11) wX10_140 (gDec iX10_glyph_ok 6 rfl) rfl ?_
        refine go_callS (n2 := 0) (q := 14) kX10_59 ctX10_isWithin (gDec iX10_glyph_ok 7 rfl) rfl rfl (Nat.le_of_ble_eq_true rfl) rfl (gFit_rm (by decide) (by decide)) rfl ?_
        refine go_top (v' := 1) (gWi_t (by rw [i2l_toInt]; exact h2)) ?_
        refine go_if_ne (t := 27) (q := 17) (gDec iX10_glyph_ok 8 rfl) (by decide) rfl (fun c14 => ?_) (fun c14 => False.elim (absurd c14 (by decide)))
        refine go_iload_n (q := 28) (gDec iX10_glyph_ok 14 rfl) rfl rfl rfl ?_
        refine go_tableIn (off := 101) (t := 129) (gDec iX10_glyph_ok 15 rfl) (by decide) (by decide) rfl (by decide) ?_
        refine go_aload_n (q := 130) (gDec iX10_glyph_ok 41 rfl) rfl rfl rfl ?_
        refine go_getr (r' := 1) (q := 133) fX10_10 (gDec iX10_glyph_ok 42 rfl) rfl (by decide) rfl ?_
        refine go_getr (r' := 2) (q := 136) fX10_70 (gDec iX10_glyph_ok 43 rfl) rfl (by decide) rfl ?_
        refine go_iload_n (q := 137) (gDec iX10_glyph_ok 44 rfl) rfl rfl rfl ?_
        refine go_iconst (v := 0) (q := 138) (gDec iX10_glyph_ok 45 rfl) (by decide) rfl ?_
        refine go_callV (n2 := 0) (q := 141) kX10_134 (ctX5_greatestx (g := i) (N := gNc σ i) (pm := gNp σ i) (by omega) (hW.nc3 (by omega)) (hW.nc (by omega)) (hW.pm (by omega))) (gDec iX10_glyph_ok 46 rfl) rfl rfl (by decide) rfl rfl rfl (Nat.le_of_ble_eq_true rfl) rfl (gFit_rm (by decide) (by decide)) rfl ?_
        exact go_ireturn (gDec iX10_glyph_ok 47 rfl) rfl rfl rfl rfl (by decide)
      · skip
        refine go_aload_n (q := 1) (gDec iX10_glyph_ok 0 rfl) rfl rfl rfl ?_
        refine go_iload_n (q := 2) (gDec iX10_glyph_ok 1 rfl) rfl rfl rfl ?_
        refine go_callV (n2 := 0) (q := 5) kX10_96 (ctX10_rG hW hi) (gDec iX10_glyph_ok 2 rfl) rfl rfl (by decide) rfl rfl rfl (Nat.le_of_ble_eq_true rfl) rfl (gFit_rm (by decide) (by decide)) rfl ?_
        refine go_iload_n (q := 6) (gDec iX10_glyph_ok 3 rfl) rfl rfl rfl ?_
        refine go_i2l (q := 7) (gDec iX10_glyph_ok 4 rfl) rfl ?_
        refine go_lconst (v := 0) (q := 8) (gDec iX10_glyph_ok 5 rfl) (by decide) rfl ?_
        refine go_ldc2 (q := 11) wX10_140 (gDec iX10_glyph_ok 6 rfl) rfl ?_
        refine go_callS (n2 := 0) (q := 14) kX10_59 ctX10_isWithin (gDec iX10_glyph_ok 7 rfl) rfl rfl (Nat.le_of_ble_eq_true rfl) rfl (gFit_rm (by decide) (by decide)) rfl ?_
        refine go_top (v' := 1) (gWi_t (by rw [i2l_toInt]; exact h2)) ?_
        refine go_if_ne (t := 27) (q := 17) (gDec iX10_glyph_ok 8 rfl) (by decide) rfl (fun c14 => ?_) (fun c14 => False.elim (absurd c14 (by decide)))
        refine go_iload_n (q := 28) (gDec iX10_glyph_ok 14 rfl) rfl rfl rfl ?_
        refine go_tableIn (off := 114) (t := 142) (gDec iX10_glyph_ok 15 rfl) (by decide) (by decide) rfl (by decide) ?_
        refine go_aload_n (q := 143) (gDec iX10_glyph_ok 48 rfl) rfl rfl rfl ?_
        refine go_getr (r' := 1) (q := 146) fX10_10 (gDec iX10_glyph_ok 49 rfl) rfl (by decide) rfl ?_
        refine go_iload_n (q := 147) (gDec iX10_glyph_ok 50 rfl) rfl rfl rfl ?_
        refine go_callV (n2 := 0) (q := 150) kX10_150 (ctX1_advanceOf (g := i) hW (by omega)) (gDec iX10_glyph_ok 51 rfl) rfl rfl (by decide) rfl rfl rfl (Nat.le_of_ble_eq_true rfl) rfl (gFit_rm (by decide) (by decide)) rfl ?_
        exact go_ireturn (gDec iX10_glyph_ok 52 rfl) rfl rfl rfl rfl (by decide)
      · skip
        refine go_aload_n (q := 1) (gDec iX10_glyph_ok 0 rfl) rfl rfl rfl ?_
        refine go_iload_n (q := 2) (gDec iX10_glyph_ok 1 rfl) rfl rfl rfl ?_
        refine go_callV (n2 := 0) (q := 5) kX10_96 (ctX10_rG hW hi) (gDec iX10_glyph_ok 2 rfl) rfl rfl (by decide) rfl rfl rfl (Nat.le_of_ble_eq_true rfl) rfl (gFit_rm (by decide) (by decide)) rfl ?_
        refine go_iload_n (q := 6) (gDec iX10_glyph_ok 3 rfl) rfl rfl rfl ?_
        refine go_i2l (q := 7) (gDec iX10_glyph_ok 4 rfl) rfl ?_
        refine go_lconst (v := 0) (q := 8) (gDec iX10_glyph_ok 5 rfl) (by decide) rfl ?_
        refine go_ldc2 (q := 11) wX10_140 (gDec iX10_glyph_ok 6 rfl) rfl ?_
        refine go_callS (n2 := 0) (q := 14) kX10_59 ctX10_isWithin (gDec iX10_glyph_ok 7 rfl) rfl rfl (Nat.le_of_ble_eq_true rfl) rfl (gFit_rm (by decide) (by decide)) rfl ?_
        refine go_top (v' := 1) (gWi_t (by rw [i2l_toInt]; exact h2)) ?_
        refine go_if_ne (t := 27) (q := 17) (gDec iX10_glyph_ok 8 rfl) (by decide) rfl (fun c14 => ?_) (fun c14 => False.elim (absurd c14 (by decide)))
        refine go_iload_n (q := 28) (gDec iX10_glyph_ok 14 rfl) rfl rfl rfl ?_
        refine go_tableIn (off := 123) (t := 151) (gDec iX10_glyph_ok 15 rfl) (by decide) (by decide) rfl (by decide) ?_
        refine go_aload_n (q := 152) (gDec iX10_glyph_ok 53 rfl) rfl rfl rfl ?_
        refine go_getr (r' := 1) (q := 155) fX10_10 (gDec iX10_glyph_ok 54 rfl) rfl (by decide) rfl ?_
        refine go_getr (r' := 20) (q := 158) fX10_153 (gDec iX10_glyph_ok 55 rfl) rfl (by decide) rfl ?_
        refine go_iload_n (q := 159) (gDec iX10_glyph_ok 56 rfl) rfl rfl rfl ?_
        refine go_iconst (v := 1) (q := 160) (gDec iX10_glyph_ok 57 rfl) (by decide) rfl ?_
        refine go_callV (n2 := 0) (q := 163) kX10_157 (ctX4_classOff (g := i) (by omega)) (gDec iX10_glyph_ok 58 rfl) rfl rfl (by decide) rfl rfl rfl (Nat.le_of_ble_eq_true rfl) rfl (gFit_rm (by decide) (by decide)) rfl ?_
        exact go_ireturn (gDec iX10_glyph_ok 59 rfl) rfl rfl rfl rfl (by decide)
      · skip
        refine go_aload_n (q := 1) (gDec iX10_glyph_ok 0 rfl) rfl rfl rfl ?_
        refine go_iload_n (q := 2) (gDec iX10_glyph_ok 1 rfl) rfl rfl rfl ?_
        refine go_callV (n2 := 0) (q := 5) kX10_96 (ctX10_rG hW hi) (gDec iX10_glyph_ok 2 rfl) rfl rfl (by decide) rfl rfl rfl (Nat.le_of_ble_eq_true rfl) rfl (gFit_rm (by decide) (by decide)) rfl ?_
        refine go_iload_n (q := 6) (gDec iX10_glyph_ok 3 rfl) rfl rfl rfl ?_
        refine go_i2l (q := 7) (gDec iX10_glyph_ok 4 rfl) rfl ?_
        refine go_lconst (v := 0) (q := 8) (gDec iX10_glyph_ok 5 rfl) (by decide) rfl ?_
        refine go_ldc2 (q := 11) wX10_140 (gDec iX10_glyph_ok 6 rfl) rfl ?_
        refine go_callS (n2 := 0) (q := 14) kX10_59 ctX10_isWithin (gDec iX10_glyph_ok 7 rfl) rfl rfl (Nat.le_of_ble_eq_true rfl) rfl (gFit_rm (by decide) (by decide)) rfl ?_
        refine go_top (v' := 1) (gWi_t (by rw [i2l_toInt]; exact h2)) ?_
        refine go_if_ne (t := 27) (q := 17) (gDec iX10_glyph_ok 8 rfl) (by decide) rfl (fun c14 => ?_) (fun c14 => False.elim (absurd c14 (by decide)))
        refine go_iload_n (q := 28) (gDec iX10_glyph_ok 14 rfl) rfl rfl rfl ?_
        refine go_tableIn (off := 136) (t := 164) (gDec iX10_glyph_ok 15 rfl) (by decide) (by decide) rfl (by decide) ?_
        refine go_aload_n (q := 165) (gDec iX10_glyph_ok 60 rfl) rfl rfl rfl ?_
        refine go_getr (r' := 1) (q := 168) fX10_10 (gDec iX10_glyph_ok 61 rfl) rfl (by decide) rfl ?_
        refine go_getr (r' := 20) (q := 171) fX10_153 (gDec iX10_glyph_ok 62 rfl) rfl (by decide) rfl ?_
        refine go_iload_n (q := 172) (gDec iX10_glyph_ok 63 rfl) rfl rfl rfl ?_
        refine go_iconst (v := 0) (q := 173) (gDec iX10_glyph_ok 64 rfl) (by decide) rfl ?_
        refine go_callV (n2 := 0) (q := 176) kX10_157 (ctX4_classOfs (g := i) (by omega)) (gDec iX10_glyph_ok 65 rfl) rfl rfl (by decide) rfl rfl rfl (Nat.le_of_ble_eq_true rfl) rfl (gFit_rm (by decide) (by decide)) rfl ?_
        exact go_ireturn (gDec iX10_glyph_ok 66 rfl) rfl rfl rfl rfl (by decide)
      · skip
        refine go_aload_n (q := 1) (gDec iX10_glyph_ok 0 rfl) rfl rfl rfl ?_
        refine go_iload_n (q := 2) (gDec iX10_glyph_ok 1 rfl) rfl rfl rfl ?_
        refine go_callV (n2 := 0) (q := 5) kX10_96 (ctX10_rG hW hi) (gDec iX10_glyph_ok 2 rfl) rfl rfl (by decide) rfl rfl rfl (Nat.le_of_ble_eq_true rfl) rfl (gFit_rm (by decide) (by decide)) rfl ?_
        refine go_iload_n (q := 6) (gDec iX10_glyph_ok 3 rfl) rfl rfl rfl ?_
        refine go_i2l (q := 7) (gDec iX10_glyph_ok 4 rfl) rfl ?_
        refine go_lconst (v := 0) (q := 8) (gDec iX10_glyph_ok 5 rfl) (by decide) rfl ?_
        refine go_ldc2 (q := 11) wX10_140 (gDec iX10_glyph_ok 6 rfl) rfl ?_
        refine go_callS (n2 := 0) (q := 14) kX10_59 ctX10_isWithin (gDec iX10_glyph_ok 7 rfl) rfl rfl (Nat.le_of_ble_eq_true rfl) rfl (gFit_rm (by decide) (by decide)) rfl ?_
        refine go_top (v' := 1) (gWi_t (by rw [i2l_toInt]; exact h2)) ?_
        refine go_if_ne (t := 27) (q := 17) (gDec iX10_glyph_ok 8 rfl) (by decide) rfl (fun c14 => ?_) (fun c14 => False.elim (absurd c14 (by decide)))
        refine go_iload_n (q := 28) (gDec iX10_glyph_ok 14 rfl) rfl rfl rfl ?_
        refine go_tableIn (off := 149) (t := 177) (gDec iX10_glyph_ok 15 rfl) (by decide) (by decide) rfl (by decide) ?_
        refine go_aload_n (q := 178) (gDec iX10_glyph_ok 67 rfl) rfl rfl rfl ?_
        refine go_getr (r' := 1) (q := 181) fX10_10 (gDec iX10_glyph_ok 68 rfl) rfl (by decide) rfl ?_
        refine go_getr (r' := 29) (q := 184) fX10_162 (gDec iX10_glyph_ok 69 rfl) rfl (by decide) rfl ?_
        refine go_iload_n (q := 185) (gDec iX10_glyph_ok 70 rfl) rfl rfl rfl ?_
        refine go_callV (n2 := 0) (q := 188) kX10_166 (ctX8_countOf (g := i) (by omega)) (gDec iX10_glyph_ok 71 rfl) rfl rfl (by decide) rfl rfl rfl (Nat.le_of_ble_eq_true rfl) rfl (gFit_rm (by decide) (by decide)) rfl ?_
        exact go_ireturn (gDec iX10_glyph_ok 72 rfl) rfl rfl rfl rfl (by decide)
      · skip
        refine go_aload_n (q := 1) (gDec iX10_glyph_ok 0 rfl) rfl rfl rfl ?_
        refine go_iload_n (q := 2) (gDec iX10_glyph_ok 1 rfl) rfl rfl rfl ?_
        refine go_callV (n2 := 0) (q := 5) kX10_96 (ctX10_rG hW hi) (gDec iX10_glyph_ok 2 rfl) rfl rfl (by decide) rfl rfl rfl (Nat.le_of_ble_eq_true rfl) rfl (gFit_rm (by decide) (by decide)) rfl ?_
        refine go_iload_n (q := 6) (gDec iX10_glyph_ok 3 rfl) rfl rfl rfl ?_
        refine go_i2l (q := 7) (gDec iX10_glyph_ok 4 rfl) rfl ?_
        refine go_lconst (v := 0) (q := 8) (gDec iX10_glyph_ok 5 rfl) (by decide) rfl ?_
        refine go_ldc2 (q := 11) wX10_140 (gDec iX10_glyph_ok 6 rfl) rfl ?_
        refine go_callS (n2 := 0) (q := 14) kX10_59 ctX10_isWithin (gDec iX10_glyph_ok 7 rfl) rfl rfl (Nat.le_of_ble_eq_true rfl) rfl (gFit_rm (by decide) (by decide)) rfl ?_
        refine go_top (v' := 1) (gWi_t (by rw [i2l_toInt]; exact h2)) ?_
        refine go_if_ne (t := 27) (q := 17) (gDec iX10_glyph_ok 8 rfl) (by decide) rfl (fun c14 => ?_) (fun c14 => False.elim (absurd c14 (by decide)))
        refine go_iload_n (q := 28) (gDec iX10_glyph_ok 14 rfl) rfl rfl rfl ?_
        refine go_tableOut (t := 189) (gDec iX10_glyph_ok 15 rfl) (by decide) (by decide) ?_
        refine go_aload_n (q := 190) (gDec iX10_glyph_ok 73 rfl) rfl rfl rfl ?_
        refine go_getr (r' := 1) (q := 193) fX10_10 (gDec iX10_glyph_ok 74 rfl) rfl (by decide) rfl ?_
        refine go_getr (r' := 2) (q := 196) fX10_70 (gDec iX10_glyph_ok 75 rfl) rfl (by decide) rfl ?_
        refine go_iload_n (q := 197) (gDec iX10_glyph_ok 76 rfl) rfl rfl rfl ?_
        refine go_callV (n2 := 0) (q := 200) kX10_171 (ctX5_twiceAreaOf (g := i) (N := gNc σ i) (pm := gNp σ i) (by omega) (hW.nc3 (by omega)) (hW.nc (by omega)) (hW.pm (by omega))) (gDec iX10_glyph_ok 77 rfl) rfl rfl (by decide) rfl rfl rfl (Nat.le_of_ble_eq_true rfl) rfl (gFit_rm (by decide) (by decide)) rfl ?_
        exact go_ireturn (gDec iX10_glyph_ok 78 rfl) rfl rfl rfl rfl (by decide)
    · rw [if_neg h2]
      refine go_aload_n (q := 1) (gDec iX10_glyph_ok 0 rfl) rfl rfl rfl ?_
      refine go_iload_n (q := 2) (gDec iX10_glyph_ok 1 rfl) rfl rfl rfl ?_
      refine go_callV (n2 := 0) (q := 5) kX10_96 (ctX10_rG hW hi) (gDec iX10_glyph_ok 2 rfl) rfl rfl (by decide) rfl rfl rfl (Nat.le_of_ble_eq_true rfl) rfl (gFit_rm (by decide) (by decide)) rfl ?_
      refine go_iload_n (q := 6) (gDec iX10_glyph_ok 3 rfl) rfl rfl rfl ?_
      refine go_i2l (q := 7) (gDec iX10_glyph_ok 4 rfl) rfl ?_
      refine go_lconst (v := 0) (q := 8) (gDec iX10_glyph_ok 5 rfl) (by decide) rfl ?_
      refine go_ldc2 (q := 11) wX10_140 (gDec iX10_glyph_ok 6 rfl) rfl ?_
      refine go_callS (n2 := 0) (q := 14) kX10_59 ctX10_isWithin (gDec iX10_glyph_ok 7 rfl) rfl rfl (Nat.le_of_ble_eq_true rfl) rfl (gFit_rm (by decide) (by decide)) rfl ?_
      refine go_top (v' := 0) (gWi_f (by rw [i2l_toInt]; exact h2)) ?_
      refine go_if_ne (t := 27) (q := 17) (gDec iX10_glyph_ok 8 rfl) (by decide) rfl (fun c14 => False.elim (c14 rfl)) (fun c14 => ?_)
      exact go_throw th_IllegalArgumentException (List.mem_of_getElem? (i := 8) rfl) rfl rfl (gDec iX10_glyph_ok 9 rfl) (gDec iX10_glyph_ok 10 rfl) (gDec iX10_glyph_ok 11 rfl) (gDec iX10_glyph_ok 12 rfl) (gDec iX10_glyph_ok 13 rfl) (by decide) (by decide)
  · rw [show fGlyph σ g w = _ from if_neg h1]
    refine go_aload_n (q := 1) (gDec iX10_glyph_ok 0 rfl) rfl rfl rfl ?_
    refine go_iload_n (q := 2) (gDec iX10_glyph_ok 1 rfl) rfl rfl rfl ?_
    exact go_callV_x kX10_96 (ctX10_requireGlyph_x hW h1) (gDec iX10_glyph_ok 2 rfl) rfl rfl (by decide) rfl rfl rfl (Nat.le_of_ble_eq_true rfl) (gFit_rm (by decide) (by decide)) rfl
