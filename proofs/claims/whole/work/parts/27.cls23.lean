def fSetSide (σ : gST) (g s v : Int32) : gO × gST := if gInS σ g s then
    if -200 ≤ v.toInt ∧ v.toInt ≤ 400 then (rI (gSd σ (nA g * 2 + nA s)), gPut (gPut (gRem σ) 15 (nA g * 2 + nA s) v) 17 (nA g * 2 + nA s) (-1)) else (xIAE, σ)
  else (xIOB, σ)
def fSetClass (σ : gST) (g b c : Int32) : gO × gST := if gInG σ g then
    if -1 ≤ c.toInt ∧ c.toInt ≤ 5 then (if b = 0 then (rI (σ.1 24 (nA g)), gPut (gRem σ) 24 (nA g) c) else (rI (σ.1 22 (nA g)), gPut (gRem σ) 22 (nA g) c)) else (xIAE, σ)
  else (xIOB, σ)

set_option maxHeartbeats 4000000 in
set_option maxRecDepth 100000 in
theorem ctX10_setSide {κ : gK} {σ : gST} {g s v : Int32} (hW : gDW σ) (hH : gHW σ) : gCt κ mX10_setSide 9 [.ref (κ.2.1 + 0), .int g, .int s, .int v] σ (fSetSide σ g s v).1 (fSetSide σ g s v).2 1 := by
  refine ct_of (by decide +kernel) rfl (Nat.le_of_ble_eq_true rfl) rfl ?_
  by_cases h1 : gInS σ g s
  · have hs : fSetSide σ g s v = _ := if_pos h1
    rw [hs]
    obtain ⟨i, j, hi, hj, rfl, rfl⟩ := gInS.ex h1
    have h24 := hW.ng24
    rw [nA_nI (n := i) (by omega), nA_nI (n := j) (by omega)]
    by_cases h2 : -200 ≤ v.toInt ∧ v.toInt ≤ 400
    · rw [if_pos h2]
      refine go_aload_n (q := 1) (gDec iX10_setSide_ok 0 rfl) rfl rfl rfl ?_
      refine go_iload_n (q := 2) (gDec iX10_setSide_ok 1 rfl) rfl rfl rfl ?_
      refine go_iload_n (q := 3) (gDec iX10_setSide_ok 2 rfl) rfl rfl rfl ?_
      refine go_callV (n2 := 0) (q := 6) kX10_190 (ctX10_rS hW hi hj) (gDec iX10_setSide_ok 3 rfl) rfl rfl (by decide) rfl rfl rfl (Nat.le_of_ble_eq_true rfl) rfl (gFit_rm (by decide) (by decide)) rfl ?_
      refine go_iload_n (q := 7) (gDec iX10_setSide_ok 4 rfl) rfl rfl rfl ?_
      refine go_i2l (q := 8) (gDec iX10_setSide_ok 5 rfl) rfl ?_
      refine go_ldc2 (q := 11) wX10_193 (gDec iX10_setSide_ok 6 rfl) rfl ?_
      refine go_ldc2 (q := 14) wX10_195 (gDec iX10_setSide_ok 7 rfl) rfl ?_
      refine go_callS (n2 := 0) (q := 17) kX10_59 ctX10_isWithin (gDec iX10_setSide_ok 8 rfl) rfl rfl (Nat.le_of_ble_eq_true rfl) rfl (gFit_rm (by decide) (by decide)) rfl ?_
      refine go_top (v' := 1) (gWi_t (by rw [i2l_toInt]; exact h2)) ?_
      refine go_if_ne (t := 30) (q := 20) (gDec iX10_setSide_ok 9 rfl) (by decide) rfl (fun c17 => ?_) (fun c17 => False.elim (absurd c17 (by decide)))
      refine go_aload_n (q := 31) (gDec iX10_setSide_ok 15 rfl) rfl rfl rfl ?_
      refine go_getr (r' := 71) (q := 34) fX10_22 (gDec iX10_setSide_ok 16 rfl) rfl (by decide) rfl ?_
      refine go_aload_n (q := 35) (gDec iX10_setSide_ok 17 rfl) rfl rfl rfl ?_
      refine go_getr (r' := 1) (q := 38) fX10_10 (gDec iX10_setSide_ok 18 rfl) rfl (by decide) rfl ?_
      refine go_callV (n2 := 0) (q := 41) kX10_89 (ctX3_rem hH) (gDec iX10_setSide_ok 19 rfl) rfl rfl (by decide) rfl rfl rfl (Nat.le_of_ble_eq_true rfl) rfl (gFit_rm (by decide) (by decide)) rfl ?_
      refine go_aload_n (q := 42) (gDec iX10_setSide_ok 20 rfl) rfl rfl rfl ?_
      refine go_getr (r' := 1) (q := 45) fX10_10 (gDec iX10_setSide_ok 21 rfl) rfl (by decide) rfl ?_
      refine go_getr (r' := 13) (q := 48) fX10_199 (gDec iX10_setSide_ok 22 rfl) rfl (by decide) rfl ?_
      refine go_iload_n (q := 49) (gDec iX10_setSide_ok 23 rfl) rfl rfl rfl ?_
      refine go_iload_n (q := 50) (gDec iX10_setSide_ok 24 rfl) rfl rfl rfl ?_
      refine go_callV (n2 := 0) (q := 53) kX10_203 (ctX0_valueOf (g := i) (t := j) (ld := gLe (gRem σ)) (by omega) hj ((gRem_D σ).dw hW).le ((gRem_D σ).dw hW).le48) (gDec iX10_setSide_ok 25 rfl) rfl rfl (by decide) rfl rfl rfl (Nat.le_of_ble_eq_true rfl) rfl (gFit_rm (by decide) (by decide)) rfl ?_
      refine go_top (v' := gSd σ (i * 2 + j)) (congrFun (gRem_D σ).sd _) ?_
      refine go_istore (q := 55) (gDec iX10_setSide_ok 26 rfl) (by decide) rfl ?_
      refine go_aload_n (q := 56) (gDec iX10_setSide_ok 27 rfl) rfl rfl rfl ?_
      refine go_getr (r' := 1) (q := 59) fX10_10 (gDec iX10_setSide_ok 28 rfl) rfl (by decide) rfl ?_
      refine go_getr (r' := 13) (q := 62) fX10_199 (gDec iX10_setSide_ok 29 rfl) rfl (by decide) rfl ?_
      refine go_iload_n (q := 63) (gDec iX10_setSide_ok 30 rfl) rfl rfl rfl ?_
      refine go_iload_n (q := 64) (gDec iX10_setSide_ok 31 rfl) rfl rfl rfl ?_
      refine go_iload_n (q := 65) (gDec iX10_setSide_ok 32 rfl) rfl rfl rfl ?_
      refine go_callV (n2 := 0) (q := 68) kX10_208 (ctX0_tell (g := i) (s := j) (by omega) hj) (gDec iX10_setSide_ok 33 rfl) rfl rfl (by decide) rfl rfl rfl (Nat.le_of_ble_eq_true rfl) rfl (gFit_rm (by decide) (by decide)) rfl ?_
      refine go_iload (q := 70) (gDec iX10_setSide_ok 34 rfl) rfl rfl ?_
      exact go_ireturn (gDec iX10_setSide_ok 35 rfl) rfl rfl rfl rfl (by decide)
    · rw [if_neg h2]
      refine go_aload_n (q := 1) (gDec iX10_setSide_ok 0 rfl) rfl rfl rfl ?_
      refine go_iload_n (q := 2) (gDec iX10_setSide_ok 1 rfl) rfl rfl rfl ?_
      refine go_iload_n (q := 3) (gDec iX10_setSide_ok 2 rfl) rfl rfl rfl ?_
      refine go_callV (n2 := 0) (q := 6) kX10_190 (ctX10_rS hW hi hj) (gDec iX10_setSide_ok 3 rfl) rfl rfl (by decide) rfl rfl rfl (Nat.le_of_ble_eq_true rfl) rfl (gFit_rm (by decide) (by decide)) rfl ?_
      refine go_iload_n (q := 7) (gDec iX10_setSide_ok 4 rfl) rfl rfl rfl ?_
      refine go_i2l (q := 8) (gDec iX10_setSide_ok 5 rfl) rfl ?_
      refine go_ldc2 (q := 11) wX10_193 (gDec iX10_setSide_ok 6 rfl) rfl ?_
      refine go_ldc2 (q := 14) wX10_195 (gDec iX10_setSide_ok 7 rfl) rfl ?_
      refine go_callS (n2 := 0) (q := 17) kX10_59 ctX10_isWithin (gDec iX10_setSide_ok 8 rfl) rfl rfl (Nat.le_of_ble_eq_true rfl) rfl (gFit_rm (by decide) (by decide)) rfl ?_
      refine go_top (v' := 0) (gWi_f (by rw [i2l_toInt]; exact h2)) ?_
      refine go_if_ne (t := 30) (q := 20) (gDec iX10_setSide_ok 9 rfl) (by decide) rfl (fun c17 => False.elim (c17 rfl)) (fun c17 => ?_)
      exact go_throw th_IllegalArgumentException (List.mem_of_getElem? (i := 11) rfl) rfl rfl (gDec iX10_setSide_ok 10 rfl) (gDec iX10_setSide_ok 11 rfl) (gDec iX10_setSide_ok 12 rfl) (gDec iX10_setSide_ok 13 rfl) (gDec iX10_setSide_ok 14 rfl) (by decide) (by decide)
  · rw [show fSetSide σ g s v = (xIOB, σ) from if_neg h1]
    refine go_aload_n (q := 1) (gDec iX10_setSide_ok 0 rfl) rfl rfl rfl ?_
    refine go_iload_n (q := 2) (gDec iX10_setSide_ok 1 rfl) rfl rfl rfl ?_
    refine go_iload_n (q := 3) (gDec iX10_setSide_ok 2 rfl) rfl rfl rfl ?_
    exact go_callV_x kX10_190 (ctX10_rSx hW h1) (gDec iX10_setSide_ok 3 rfl) rfl rfl (by decide) rfl rfl rfl (Nat.le_of_ble_eq_true rfl) (gFit_rm (by decide) (by decide)) rfl

set_option maxHeartbeats 4000000 in
set_option maxRecDepth 100000 in
theorem ctX10_setClass {κ : gK} {σ : gST} {g b c : Int32} (hb : g01 b) (hW : gDW σ) (hH : gHW σ) : gCt κ mX10_setClass 9 [.ref (κ.2.1 + 0), .int g, .int b, .int c] σ (fSetClass σ g b c).1 (fSetClass σ g b c).2 1 := by
  refine ct_of (by decide +kernel) rfl (Nat.le_of_ble_eq_true rfl) rfl ?_
  by_cases h1 : gInG σ g
  · have hs : fSetClass σ g b c = _ := if_pos h1
    rw [hs]
    obtain ⟨i, hi, rfl⟩ := gInG.ex h1
    have h24 := hW.ng24
    rw [nA_nI (n := i) (by omega)]
    by_cases h2 : -1 ≤ c.toInt ∧ c.toInt ≤ 5
    · rw [if_pos h2]
      rcases hb with hb | hb
      · subst hb
        rw [if_pos rfl]
        refine go_aload_n (q := 1) (gDec iX10_setClass_ok 0 rfl) rfl rfl rfl ?_
        refine go_iload_n (q := 2) (gDec iX10_setClass_ok 1 rfl) rfl rfl rfl ?_
        refine go_callV (n2 := 0) (q := 5) kX10_96 (ctX10_rG hW hi) (gDec iX10_setClass_ok 2 rfl) rfl rfl (by decide) rfl rfl rfl (Nat.le_of_ble_eq_true rfl) rfl (gFit_rm (by decide) (by decide)) rfl ?_
        refine go_iload_n (q := 6) (gDec iX10_setClass_ok 3 rfl) rfl rfl rfl ?_
        refine go_i2l (q := 7) (gDec iX10_setClass_ok 4 rfl) rfl ?_
        refine go_ldc2 (q := 10) wX10_247 (gDec iX10_setClass_ok 5 rfl) rfl ?_
        refine go_ldc2 (q := 13) wX10_249 (gDec iX10_setClass_ok 6 rfl) rfl ?_
        refine go_callS (n2 := 0) (q := 16) kX10_59 ctX10_isWithin (gDec iX10_setClass_ok 7 rfl) rfl rfl (Nat.le_of_ble_eq_true rfl) rfl (gFit_rm (by decide) (by decide)) rfl ?_
        refine go_top (v' := 1) (gWi_t (by rw [i2l_toInt]; exact h2)) ?_
        refine go_if_ne (t := 29) (q := 19) (gDec iX10_setClass_ok 8 rfl) (by decide) rfl (fun c16 => ?_) (fun c16 => False.elim (absurd c16 (by decide)))
        refine go_aload_n (q := 30) (gDec iX10_setClass_ok 14 rfl) rfl rfl rfl ?_
        refine go_getr (r' := 71) (q := 33) fX10_22 (gDec iX10_setClass_ok 15 rfl) rfl (by decide) rfl ?_
        refine go_aload_n (q := 34) (gDec iX10_setClass_ok 16 rfl) rfl rfl rfl ?_
        refine go_getr (r' := 1) (q := 37) fX10_10 (gDec iX10_setClass_ok 17 rfl) rfl (by decide) rfl ?_
        refine go_callV (n2 := 0) (q := 40) kX10_89 (ctX3_rem hH) (gDec iX10_setClass_ok 18 rfl) rfl rfl (by decide) rfl rfl rfl (Nat.le_of_ble_eq_true rfl) rfl (gFit_rm (by decide) (by decide)) rfl ?_
        refine go_aload_n (q := 41) (gDec iX10_setClass_ok 19 rfl) rfl rfl rfl ?_
        refine go_getr (r' := 1) (q := 44) fX10_10 (gDec iX10_setClass_ok 20 rfl) rfl (by decide) rfl ?_
        refine go_getr (r' := 20) (q := 47) fX10_153 (gDec iX10_setClass_ok 21 rfl) rfl (by decide) rfl ?_
        refine go_iload_n (q := 48) (gDec iX10_setClass_ok 22 rfl) rfl rfl rfl ?_
        refine go_iload_n (q := 49) (gDec iX10_setClass_ok 23 rfl) rfl rfl rfl ?_
        refine go_callV (n2 := 0) (q := 52) kX10_157 (ctX4_classOfs (g := i) (by omega)) (gDec iX10_setClass_ok 24 rfl) rfl rfl (by decide) rfl rfl rfl (Nat.le_of_ble_eq_true rfl) rfl (gFit_rm (by decide) (by decide)) rfl ?_
        refine go_top (v' := σ.1 24 i) (congrFun ((gRem_D σ) 24 (by decide)) i) ?_
        refine go_istore (q := 54) (gDec iX10_setClass_ok 25 rfl) (by decide) rfl ?_
        refine go_aload_n (q := 55) (gDec iX10_setClass_ok 26 rfl) rfl rfl rfl ?_
        refine go_getr (r' := 1) (q := 58) fX10_10 (gDec iX10_setClass_ok 27 rfl) rfl (by decide) rfl ?_
        refine go_getr (r' := 20) (q := 61) fX10_153 (gDec iX10_setClass_ok 28 rfl) rfl (by decide) rfl ?_
        refine go_iload_n (q := 62) (gDec iX10_setClass_ok 29 rfl) rfl rfl rfl ?_
        refine go_iload_n (q := 63) (gDec iX10_setClass_ok 30 rfl) rfl rfl rfl ?_
        refine go_iload_n (q := 64) (gDec iX10_setClass_ok 31 rfl) rfl rfl rfl ?_
        refine go_callV (n2 := 0) (q := 67) kX10_253 (ctX4_putIntoClasss (g := i) (by omega)) (gDec iX10_setClass_ok 32 rfl) rfl rfl (by decide) rfl rfl rfl (Nat.le_of_ble_eq_true rfl) rfl (gFit_rm (by decide) (by decide)) rfl ?_
        refine go_iload (q := 69) (gDec iX10_setClass_ok 33 rfl) rfl rfl ?_
        exact go_ireturn (gDec iX10_setClass_ok 34 rfl) rfl rfl rfl rfl (by decide)
      · subst hb
        rw [if_neg (by decide)]
        refine go_aload_n (q := 1) (gDec iX10_setClass_ok 0 rfl) rfl rfl rfl ?_
        refine go_iload_n (q := 2) (gDec iX10_setClass_ok 1 rfl) rfl rfl rfl ?_
        refine go_callV (n2 := 0) (q := 5) kX10_96 (ctX10_rG hW hi) (gDec iX10_setClass_ok 2 rfl) rfl rfl (by decide) rfl rfl rfl (Nat.le_of_ble_eq_true rfl) rfl (gFit_rm (by decide) (by decide)) rfl ?_
        refine go_iload_n (q := 6) (gDec iX10_setClass_ok 3 rfl) rfl rfl rfl ?_
        refine go_i2l (q := 7) (gDec iX10_setClass_ok 4 rfl) rfl ?_
        refine go_ldc2 (q := 10) wX10_247 (gDec iX10_setClass_ok 5 rfl) rfl ?_
        refine go_ldc2 (q := 13) wX10_249 (gDec iX10_setClass_ok 6 rfl) rfl ?_
        refine go_callS (n2 := 0) (q := 16) kX10_59 ctX10_isWithin (gDec iX10_setClass_ok 7 rfl) rfl rfl (Nat.le_of_ble_eq_true rfl) rfl (gFit_rm (by decide) (by decide)) rfl ?_
        refine go_top (v' := 1) (gWi_t (by rw [i2l_toInt]; exact h2)) ?_
        refine go_if_ne (t := 29) (q := 19) (gDec iX10_setClass_ok 8 rfl) (by decide) rfl (fun c16 => ?_) (fun c16 => False.elim (absurd c16 (by decide)))
        refine go_aload_n (q := 30) (gDec iX10_setClass_ok 14 rfl) rfl rfl rfl ?_
        refine go_getr (r' := 71) (q := 33) fX10_22 (gDec iX10_setClass_ok 15 rfl) rfl (by decide) rfl ?_
        refine go_aload_n (q := 34) (gDec iX10_setClass_ok 16 rfl) rfl rfl rfl ?_
        refine go_getr (r' := 1) (q := 37) fX10_10 (gDec iX10_setClass_ok 17 rfl) rfl (by decide) rfl ?_
        refine go_callV (n2 := 0) (q := 40) kX10_89 (ctX3_rem hH) (gDec iX10_setClass_ok 18 rfl) rfl rfl (by decide) rfl rfl rfl (Nat.le_of_ble_eq_true rfl) rfl (gFit_rm (by decide) (by decide)) rfl ?_
        refine go_aload_n (q := 41) (gDec iX10_setClass_ok 19 rfl) rfl rfl rfl ?_
        refine go_getr (r' := 1) (q := 44) fX10_10 (gDec iX10_setClass_ok 20 rfl) rfl (by decide) rfl ?_
        refine go_getr (r' := 20) (q := 47) fX10_153 (gDec iX10_setClass_ok 21 rfl) rfl (by decide) rfl ?_
        refine go_iload_n (q := 48) (gDec iX10_setClass_ok 22 rfl) rfl rfl rfl ?_
        refine go_iload_n (q := 49) (gDec iX10_setClass_ok 23 rfl) rfl rfl rfl ?_
        refine go_callV (n2 := 0) (q := 52) kX10_157 (ctX4_classOff (g := i) (by omega)) (gDec iX10_setClass_ok 24 rfl) rfl rfl (by decide) rfl rfl rfl (Nat.le_of_ble_eq_true rfl) rfl (gFit_rm (by decide) (by decide)) rfl ?_
        refine go_top (v' := σ.1 22 i) (congrFun ((gRem_D σ) 22 (by decide)) i) ?_
        refine go_istore (q := 54) (gDec iX10_setClass_ok 25 rfl) (by decide) rfl ?_
        refine go_aload_n (q := 55) (gDec iX10_setClass_ok 26 rfl) rfl rfl rfl ?_
        refine go_getr (r' := 1) (q := 58) fX10_10 (gDec iX10_setClass_ok 27 rfl) rfl (by decide) rfl ?_
        refine go_getr (r' := 20) (q := 61) fX10_153 (gDec iX10_setClass_ok 28 rfl) rfl (by decide) rfl ?_
        refine go_iload_n (q := 62) (gDec iX10_setClass_ok 29 rfl) rfl rfl rfl ?_
        refine go_iload_n (q := 63) (gDec iX10_setClass_ok 30 rfl) rfl rfl rfl ?_
        refine go_iload_n (q := 64) (gDec iX10_setClass_ok 31 rfl) rfl rfl rfl ?_
        refine go_callV (n2 := 0) (q := 67) kX10_253 (ctX4_putIntoClassf (g := i) (by omega)) (gDec iX10_setClass_ok 32 rfl) rfl rfl (by decide) rfl rfl rfl (Nat.le_of_ble_eq_true rfl) rfl (gFit_rm (by decide) (by decide)) rfl ?_
        refine go_iload (q := 69) (gDec iX10_setClass_ok 33 rfl) rfl rfl ?_
        exact go_ireturn (gDec iX10_setClass_ok 34 rfl) rfl rfl rfl rfl (by decide)
    · rw [if_neg h2]
      refine go_aload_n (q := 1) (gDec iX10_setClass_ok 0 rfl) rfl rfl rfl ?_
      refine go_iload_n (q := 2) (gDec iX10_setClass_ok 1 rfl) rfl rfl rfl ?_
      refine go_callV (n2 := 0) (q := 5) kX10_96 (ctX10_rG hW hi) (gDec iX10_setClass_ok 2 rfl) rfl rfl (by decide) rfl rfl rfl (Nat.le_of_ble_eq_true rfl) rfl (gFit_rm (by decide) (by decide)) rfl ?_
      refine go_iload_n (q := 6) (gDec iX10_setClass_ok 3 rfl) rfl rfl rfl ?_
      refine go_i2l (q := 7) (gDec iX10_setClass_ok 4 rfl) rfl ?_
      refine go_ldc2 (q := 10) wX10_247 (gDec iX10_setClass_ok 5 rfl) rfl ?_
      refine go_ldc2 (q := 13) wX10_249 (gDec iX10_setClass_ok 6 rfl) rfl ?_
      refine go_callS (n2 := 0) (q := 16) kX10_59 ctX10_isWithin (gDec iX10_setClass_ok 7 rfl) rfl rfl (Nat.le_of_ble_eq_true rfl) rfl (gFit_rm (by decide) (by decide)) rfl ?_
      refine go_top (v' := 0) (gWi_f (by rw [i2l_toInt]; exact h2)) ?_
      refine go_if_ne (t := 29) (q := 19) (gDec iX10_setClass_ok 8 rfl) (by decide) rfl (fun c16 => False.elim (c16 rfl)) (fun c16 => ?_)
      exact go_throw th_IllegalArgumentException (List.mem_of_getElem? (i := 15) rfl) rfl rfl (gDec iX10_setClass_ok 9 rfl) (gDec iX10_setClass_ok 10 rfl) (gDec iX10_setClass_ok 11 rfl) (gDec iX10_setClass_ok 12 rfl) (gDec iX10_setClass_ok 13 rfl) (by decide) (by decide)
  · rw [show fSetClass σ g b c = (xIOB, σ) from if_neg h1]
    refine go_aload_n (q := 1) (gDec iX10_setClass_ok 0 rfl) rfl rfl rfl ?_
    refine go_iload_n (q := 2) (gDec iX10_setClass_ok 1 rfl) rfl rfl rfl ?_
    exact go_callV_x kX10_96 (ctX10_requireGlyph_x hW h1) (gDec iX10_setClass_ok 2 rfl) rfl rfl (by decide) rfl rfl rfl (Nat.le_of_ble_eq_true rfl) (gFit_rm (by decide) (by decide)) rfl
