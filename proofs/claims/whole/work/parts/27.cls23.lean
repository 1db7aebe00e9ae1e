def fSetSide (σ : gST) (g s v : Int32) : gO × gST := if gInS σ g s then
    if -200 ≤ v.toInt ∧ v.toInt ≤ 400 then (rI (gSd σ (nA g * 2 + nA s)), gPut (gPut (gRem σ) 15 (nA g * 2 + nA s) v) 17 (nA g * 2 + nA s) (-1)) else (xIAE, σ)
  else (xIOB, σ)
def fSetClass (σ : gST) (g b c : Int32) : gO × gST := if gInG σ g then
    if -1 ≤ c.toInt ∧ c.toInt ≤ 5 then (if b = 0 then (rI (σ.1 24 (nA g)), gPut (gRem σ) 24 (nA g) c) else (rI (σ.1 22 (nA g)), gPut (gRem σ) 22 (nA g) c)) else (xIAE, σ)
  else (xIOB, σ)

set_option maxHeartbeats 4000000 in
set_option maxRecDepth 100000 in
theorem ctX10_setSide {κ : gK} {σ : gST} {g s v : Int32} (hW : gDW σ) (hH : gHW σ) : gCt κ mX10_setSide 9 [.ref (κ.2.1 + 0), .int g, .int s, .int v] σ (fSetSide σ g s v).1 (fSetSide σ g s v).2 1 := by
  refine ct_of (by decide +kernel) rfl (Nat.le_of_ble_eq_true rfl) rfl ?_
  by_cases h1 : gInS σ g s
  · have hs : fSetSide σ g s v = _ := if_pos h1
    rw [hs]
    obtain ⟨i, j, hi, hj, rfl, rfl⟩ := gInS.ex h1
    have h24 := hW.ng24
    rw [nA_nI (n := i) (by omega), nA_nI (n := j) (by omega)]
    by_cases h2 : -200 ≤ v.toInt ∧ v.toInt ≤ 400
    · rw [if_pos h2]
      refine go_aload_n (q := 1) (gDec iX10_setSide_ok 0 rfl) rfl rfl rfl ?_
      refine go_iload_n (q := 2) (gDec iX10_setSide_ok 1 rfl) rfl rfl rfl ?_
      refine go_iload_n (q := 3) (gDec iX10_setSide_ok 2 rfl) rfl rfl rfl ?_
      refine go_callV (n2 := 0) (q := 6) kX10_190 (ctX10_rS hW hi hj) (gDec iX10_setSide_ok 3 rfl) rfl rfl (by decide) rfl rfl rfl (Nat.le_of_ble_eq_true rfl) rfl (gFit_rm (by decide) (by decide)) rfl ?_
      refine go_iload_n (q := 7) (gDec iX10_setSide_ok 4 rfl) rfl rfl rfl ?_
      refine go_i2l (q := 8) (gDec iX10_setSide_ok 5 rfl) rfl ?_
      refine go_ldc2 (q := 11) wX10_193 (gDec iX10_setSide_ok 6 rfl) rfl ?_
      refine go_ldc2 (q := 14) wX10_195 (gDec iX10_setSide_ok 7 rfl) rfl ?_
      refine go_callS (n2 := 0) (q := 17) kX10_59 ctX10_isWithin (gDec iX10_setSide_ok 8 rfl) rfl rfl (Nat.le_of_ble_eq_true rfl) rfl (gFit_rm (by decide) (by decide)) rfl ?_
      refine go_top (v' := 1) (gWi_t (by rw [i2l_toInt]; exact h2)) ?_
      refine go_if_ne (t := 30) (q := 20) (gDec iX10_setSide_ok 9 rfl) (by decide) rfl (fun c17 => ?_) (fun c17 => False.elim (absurd c17 (by decide)))
      refine go_aload_n (q := 31) (gDec iX10_setSide_ok 15 rfl) rfl rfl rfl ?_
      refine go_getr (r' := 71) (q := 34) fX10_22 (gDec iX10_setSide_ok 16 rfl) rfl (by decide) rfl ?_
      refine go_aload_n (q := 35) (gDec iX10_setSide_ok 17 rfl) rfl rfl rfl ?_
      refine go_getr (r' := 1) (q := 38) fX10_10 (gDec iX10_setSide_ok 18 rfl) rfl (by decide) rfl ?_
      refine go_callV (n2 := 0) (q := 41) kX10_89 (ctX3_rem hH) (gDec iX10_setSide_ok 19 rfl) rfl rfl (by decide) rfl rfl rfl (Nat.le_of_ble_eq_true rfl) rfl (gFit_rm (by decide) (by decide)) rfl ?_
      refine go_aload_n (q := 42) (gDec iX10_setSide_ok 20 rfl) rfl rfl rfl ?_
      refine go_getr (r' := 1) (q := 45) fX10_10 (gDec iX10_setSide_ok 21 rfl) rfl (by decide) rfl ?_
      refine go_getr (r' := 13) (q := 48) fX10_199 (gDec iX10_setSide_ok 22 rfl) rfl (by decide) rfl ?_
      refine go_iload_n (q := 49) (gDec iX10_setSide_ok 23 rfl) rfl rfl rfl ?_
      refine go_iload_n (q := 50) (gDec iX10_setSide_ok 24 rfl) rfl rfl rfl ?_
      refine go_callV (n2 := 0) (q := 53) kX10_203 (ctX0_valueOf (g := i) (t := j) (ld := gLe (gRem σ)) (by omega) hj ((gRem_D σ).dw hW).le ((gRem_D σ).dw hW).le48) (gDec iX10_setSide_ok 25 rfl) rfl rfl (by decide) rfl rfl rfl (Nat.le_of_ble_eq_true rfl) rfl (gFit_rm (by decide) (by decide)) rfl ?_
      refine go_top (v' := gSd σ (i * 2 + j)) (congrFun (gRem_D σ).sd _) ?_
      refine go_istore (q := 55) (gDec iX10_setSide_ok 26 rfl) (by decide) rfl ?_
      refine go_aload_n (q := 56) (gDec iX10_setSide_ok 27 rfl) rfl rfl rfl ?_
      refine go_getr (r' := 1) (q := 59) fX10_10 (gDec iX10_setSide_ok 28 rfl) rfl (by decide) rfl ?_
      refine go_getr (r' := 13) (q := 62) fX10_199 (gDec iX10_setSide_ok 29 rfl) rfl (by decide) rfl ?_
      refine go_iload_n (q := 63) (gDec iX10_setSide_ok 30 rfl) rfl rfl rfl ?_
      refine go_iload_n (q := 64) (gDec iX10_setSide_ok 31 rfl) rfl rfl rfl ?_
      refine go_iload_n (q := 65) (gDec iX10_setSide_ok 32 rfl) rfl rfl rfl ?_
      refine go_callV (n2 := 0) (q := 68) kX10_208 (ctX0_tell (g := i) (s := j) (by omega) hj) (gDec iX10_setSide_ok 33 rfl) rfl rfl (by decide) rfl rfl rfl (Nat.le_of_ble_eq_true rfl) rfl (gFit_rm (by decide) (by decide)) rfl ?_
      refine go_iload (q := 70) (gDec iX10_setSide_ok 34 rfl) rfl rfl ?_
      exact go_ireturn (gDec iX10_setSide_ok 35 rfl) rfl rfl rfl rfl (by decide)
    · rw [if_neg h2]
      refine go_aload_n (q := 1) (gDec iX10_setSide_ok 0 rfl) rfl rfl rfl ?_
      refine go_iload_n (q := 2) (gDec iX10_setSide_ok 1 rfl) rfl rfl rfl ?_
      refine go_iload_n (q := 3) (gDec iX10_setSide_ok 2 rfl) rfl rfl rfl ?_
      refine go_callV (n2 := 0) (q := 6) kX10_190 (ctX10_rS hW hi hj) (gDec iX10_setSide_ok 3 rfl) rfl rfl (by decide) rfl rfl rfl (Nat.le_of_ble_eq_true rfl) rfl (gFit_rm (by decide) (by decide)) rfl ?_
      refine go_iload_n (q := 7) (gDec iX10_setSide_ok 4 rfl) rfl rfl rfl ?_
      refine go_i2l (q := 8) (gDec iX10_setSide_ok 5 rfl) rfl ?_
      refine go_ldc2 (q := 11) wX10_193 (gDec iX10_setSide_ok 6 rfl) rfl ?_
      refine go_ldc2 (q := 14) wX10_195 (gDec iX10_setSide_ok 7 rfl) rfl ?_
      refine go_callS (n2 := 0) (q := 17) kX10_59 ctX10_isWithin (gDec iX10_setSide_ok 8 rfl) rfl rfl (Nat.le_of_ble_eq_true rfl) rfl (gFit_rm (by decide) (by decide)) rfl ?_
      refine go_top (v' := 0) (gWi_f (by rw [i2l_toInt]; exact h2)) ?_
      refine go_if_ne (t := 30) (q := 20) (gDec iX10_setSide_ok 9 rfl) (by decide) rfl (fun c17 => False.elim (c17 rfl)) (fun c17 => ?_)
      exact go_throw th_IllegalArgumentException (List.mem_of_getElem? (i := 11) rfl) rfl rfl (gDec iX10_setSide_ok 10 rfl) (gDec iX10_setSide_ok 11 rfl) (gDec iX10_setSide_ok 12 rfl) (gDec iX10_setSide_ok 13 rfl) (gDec iX10_setSide_ok 14 rfl) (by decide) (by decide)
  · rw [show fSetSide σ g s v = (xIOB, σ) from if_neg h1]
    refine go_aload_n (q := 1) (gDec iX10_setSide_ok 0 rfl) rfl rfl rfl ?_
    refine go_iload_n (q := 2) (gDec iX10_setSide_ok 1 rfl) rfl rfl rfl ?_
    refine go_iload_n (q := 3) (gDec iX10_setSide_ok 2 rfl) rfl rfl rfl ?_
    exact go_callV_x kX10_190 (ctX10_rSx hW h1) (gDec iX10_setSide_ok 3 rfl) rfl rfl (by decide) rfl rfl rfl (Nat.le_of_ble_eq_true rfl) (gFit_rm (by decide) (by decide)) rfl

set_option maxHeartbeats 4000000 in
set_option maxRecDepth 100000 in
theorem ctX10_setClass {κ : gK} {σ : gST} {g b c : Int32} (hb : g01 b) (hW : gDW σ) (hH : gHW σ) : gCt κ mX10_setClass 9 [.ref (κ.2.1 + 0), .int g, .int b, .int c] σ (fSetClass σ g b c).1 (fSetClass σ g b c).2 1 := by
  refine ct_of (by decide +kernel) rfl (Nat.le_of_ble_eq_true rfl) rfl ?_
  by_cases h1 : gInG σ g
  · have hs : fSetClass σ g b c = _ := if_pos h1
    rw [hs]
    obtain ⟨i, hi, rfl⟩ := gInG.ex h1
    have h24 := hW.ng24
    rw [nA_nI (n := i) (by omega)]
    by_cases h2 : -1 ≤ c.toInt ∧ c.toInt ≤ 5
    · rw [if_pos h2]
      rcases hb with hb | hb
      · subst hb
        rw [if_pos rfl]
        refine go_aload_n (q := 1) (gDec iX10_setClass_ok 0 rfl) rfl rfl rfl ?_
        refine go_iload_n (q := 2) (gDec iX10_setClass_ok 1 rfl) rfl rfl rfl ?_
        refine go_callV (n2 := 0) (q := 5) kX10_96 (ctX10_rG hW hi) (gDec iX10_setClass_ok 2 rfl) rfl rfl (by decide) rfl rfl rfl (Nat.le_of_ble_eq_true rfl) rfl (gFit_rm (by decide) (by decide)) rfl ?_
        refine go_iload_n (q := 6) (gDec iX10_setClass_ok 3 rfl) rfl rfl rfl ?_
        refine go_i2l (q := 7) (gDec iX10_setClass_ok 4 rfl) rfl ?_
        refine go_ldc2 (q := 10) wX10_247 (gDec iX10_setClass_ok 5 rfl) rfl ?_
        refine go_ldc2 (q := 13) wX10_249 (gDec iX10_setClass_ok 6 rfl) rfl ?_
        refine go_callS (n2 := 0) (q := 16) kX10_59 ctX10_isWithin (gDec iX10_setClass_ok 7 rfl) rfl rfl (Nat.le_of_ble_eq_true rfl) rfl (gFit_rm (by decide) (by decide)) rfl ?_
        refine go_top (v' := 1) (gWi_t (by rw [i2l_toInt]; exact h2)) ?_
        refine go_if_ne (t := 29) (q := 19) (gDec iX10_setClass_ok 8 rfl) (by decide) rfl (fun c16 => ?_) (fun c16 => False.elim (absurd c16 (by decide)))
        refine go_aload_n (q := 30) (gDec iX10_setClass_ok 14 rfl) rfl rfl rfl ?_
        refine go_getr (r' := 71) (q := 33) fX10_22 (gDec iX10_setClass_ok 15 rfl) rfl (by decide) rfl ?_
        refine go_aload_n (q := 34) (gDec iX10_setClass_ok 16 rfl) rfl rfl rfl ?_
        refine go_getr (r' := 1) (q := 37) fX10_10 (gDec iX10_setClass_ok 17 rfl) rfl (by decide) rfl ?_
        refine go_callV (n2 := 0) (q := 40) kX10_89 (ctX3_rem hH) (gDec iX10_setClass_ok 18 rfl) rfl rfl (by decide) rfl rfl rfl (Nat.le_of_ble_eq_true rfl) rfl (gFit_rm (by decide) (by decide)) rfl ?_
        refine go_aload_n (q := 41) (gDec iX10_setClass_ok 19 rfl) rfl rfl rfl ?_
        refine go_getr (r' := 1) (q := 44) fX10_10 (gDec iX10_setClass_ok 20 rfl) rfl (by decide) rfl ?_
        refine go_getr (r' := 20) (q := 47) fX10_153 (gDec iX10_setClass_ok 21 rfl) rfl (by decide) rfl ?_
        refine go_iload_n (q := 48) (gDec iX10_setClass_ok 22 rfl) rfl rfl rfl ?_
        refine go_iload_n (q := 49) (gDec iX10_setClass_ok 23 rfl) rfl rfl rfl ?_
        refine go_callV (n2 := 0) (q := 52) kX10_157 (ctX4_classOfs (g := i) (by omega)) (gDec iX10_setClass_ok 24 rfl) rfl rfl (by decide) rfl rfl rfl (Nat.le_of_ble_eq_true rfl) rfl (gFit_rm (by decide) (by decide)) rfl ?_
        refine go_top (v' := σ.1 24 i) (congrFun ((gRem_D σ) 24 (by decide)) i) ?_
        refine go_istore (q := 54) (gDec iX10_setClass_ok 25 rfl) (by decide) rfl ?_
        refine go_aload_n (q := 55) (gDec iX10_setClass_ok 26 rfl) rfl rfl rfl ?_
        refine go_getr (r' := 1) (q := 58) fX10_10 (gDec iX10_setClass_ok 27 rfl) rfl (by decide) rfl ?_
        refine go_getr (r' := 20) (q := 61) fX10_153 (gDec iX10_setClass_ok 28 rfl) rfl (by decide) rfl ?_
        refine go_iload_n (q := 62) (gDec iX10_setClass_ok 29 rfl) rfl rfl rfl ?_
        refine go_iload_n (q := 63) (gDec iX10_setClass_ok 30 rfl) rfl rfl rfl ?_
        refine go_iload_n (q := 64) (gDec iX10_setClass_ok 31 rfl) rfl rfl rfl ?_
        refine go_callV (n2 := 0) (q := 67) kX10_253 (ctX4_putIntoClasss (g := i) (by omega)) (gDec iX10_setClass_ok 32 rfl) rfl rfl (by decide) rfl rfl rfl (Nat.le_of_ble_eq_true rfl) rfl (gFit_rm (by decide) (by decide)) rfl ?_
        refine go_iload (q := 69) (gDec iX10_setClass_ok 33 rfl) rfl rfl ?_
        exact go_ireturn (gDec iX10_setClass_ok 34 rfl) rfl rfl rfl rfl (by decide)
      · subst hb
        rw [if_neg (by decide)]
        refine go_aload_n (q := 1) (gDec iX10_setClass_ok 0 rfl) rfl rfl rfl ?_
        refine go_iload_n (q := 2) (gDec iX10_setClass_ok 1 rfl) rfl rfl rfl ?_
        refine go_callV (n2 := 0) (q := 5) kX10_96 (ctX10_rG hW hi) (gDec iX10_setClass_ok 2 rfl) rfl rfl (by decide) rfl rfl rfl (Nat.le_of_ble_eq_true rfl) rfl (gFit_rm (by decide) (by decide)) rfl ?_
        refine go_iload_n (q := 6) (gDec iX10_setClass_ok 3 rfl) rfl rfl rfl ?_
        refine go_i2l (q := 7) (gDec iX10_setClass_ok 4 rfl) rfl ?_
        refine go_ldc2 (q := 10) wX10_247 (gDec iX10_setClass_ok 5 rfl) rfl ?_
        refine go_ldc2 (q := 13) wX10_249 (gDec iX10_setClass_ok 6 rfl) rfl ?_
        refine go_callS (n2 := 0) (q := 16) kX10_59 ctX10_isWithin (gDec iX10_setClass_ok 7 rfl) rfl rfl (Nat.le_of_ble_eq_true rfl) rfl (gFit_rm (by decide) (by decide)) rfl ?_
        refine go_top (v' := 1) (gWi_t (by rw [i2l_toInt]; exact h2)) ?_
        refine go_if_ne (t := 29) (q := 19) (gDec iX10_setClass_ok 8 rfl) (by decide) rfl (fun c16 => ?_) (fun c16 => False.elim (absurd c16 (by decide)))
        refine go_aload_n (q := 30) (gDec iX10_setClass_ok 14 rfl) rfl rfl rfl ?_
        refine go_getr (r' := 71) (q := 33) fX10_22 (gDec iX10_setClass_ok 15 rfl) rfl (by decide) rfl ?_
        refine go_aload_n (q := 34) (gDec iX10_setClass_ok 16 rfl) rfl rfl rfl ?_
        refine go_getr (r' := 1) (q := 37) fX10_10 (gDec iX10_setClass_ok 17 rfl) rfl (by decide) rfl ?_
        refine go_callV (n2 := 0) (q := 40) kX10_89 (ctX3_rem hH) (gDec iX10_setClass_ok 18 rfl) rfl rfl (by decide) rfl rfl rfl (Nat.le_of_ble_eq_true rfl) rfl (gFit_rm (by decide) (by decide)) rfl ?_
        refine go_aload_n (q := 41) (gDec iX10_setClass_ok 19 rfl) rfl rfl rfl ?_
        refine go_getr (r' := 1) (q := 44) fX10_10 (gDec iX10_setClass_ok 20 rfl) rfl (by decide) rfl ?_
        refine go_getr (r' := 20) (q := 47) fX10_153 (gDec iX10_setClass_ok 21 rfl) rfl (by decide) rfl ?_
        refine go_iload_n (q := 48) (gDec iX10_setClass_ok 22 rfl) rfl rfl rfl ?_
        refine go_iload_n (q := 49) (gDec iX10_setClass_ok 23 rfl) rfl rfl rfl ?_
        refine go_callV (n2 := 0) (q := 52) kX10_157 (ctX4_classOff (g := i) (by omega)) (gDec iX10_setClass_ok 24 rfl) rfl rfl (by decide) rfl rfl rfl (Nat.le_of_ble_eq_true rfl) rfl (gFit_rm (by decide) (by decide)) rfl ?_
        refine go_top (v' := σ.1 22 i) (congrFun ((gRem_D σ) 22 (by decide)) i) ?_
        refine go_istore (q := 54) (gDec iX10_setClass_ok 25 rfl) (by decide) rfl ?_
        refine go_aload_n (q := 55) (gDec iX10_setClass_ok 26 rfl) rfl rfl rfl ?_
        refine go_getr (r' := 1) (q := 58) fX10_10 (gDec iX10_setClass_ok 27 rfl) rfl (by decide) rfl ?_
        refine go_getr (r' := 20) (q := 61) fX10_153 (gDec iX10_setClass_ok 28 rfl) rfl (by decide) rfl ?_
        refine go_iload_n (q := 62) (gDec iX10_setClass_ok 29 rfl) rfl rfl rfl ?_
        refine go_iload_n (q := 63) (gDec iX10_setClass_ok 30 rfl) rfl rfl rfl ?_
        refine go_iload_n (q := 64) (gDec iX10_setClass_ok 31 rfl) rfl rfl rfl ?_
        refine go_callV (n2 := 0) (q := 67) kX10_253 (ctX4_putIntoClassf (g := i) (by omega)) (gDec iX10_setClass_ok 32 rfl) rfl rfl (by decide) rfl rfl rfl (Nat.le_of_ble_eq_true rfl) rfl (gFit_rm (by decide) (by decide)) rfl ?_
        refine go_iload (q := 69) (gDec iX10_setClass_ok 33 rfl) rfl rfl ?_
        exact go_ireturn (gDec iX10_setClass_ok 34 rfl) rfl rfl rfl rfl (by decide)
    · rw [if_neg h2]
      refine go_aload_n (q := 1) (gDec iX10_setClass_ok 0 rfl) rfl rfl rfl ?_
      refine go_iload_n (q := 2) (gDec iX10_setClass_ok 1 rfl) rfl rfl rfl ?_
      refine go_callV (n2 := 0) (q := 5) kX10_96 (ctX10_rG hW hi) (gDec iX10_setClass_ok 2 rfl) rfl rfl (by decide) rfl rfl rfl (Nat.le_of_ble_eq_true rfl) rfl (gFit_rm (by decide) (by decide)) rfl ?_
      refine go_iload_n (q := 6) (gDec iX10_setClass_ok 3 rfl) rfl rfl rfl ?_
      refine go_i2l (q := 7) (gDec iX10_setClass_ok 4 rfl) rfl ?_
      refine go_ldc2 (q := 10) wX10_247 (gDec iX10_setClass_ok 5 rfl) rfl ?_
      refine go_ldc2 (q := 13) wX10_249 (gDec iX10_setClass_ok 6 rfl) rfl ?_
      refine go_callS (n2 := 0) (q := 16) kX10_59 ctX10_isWithin (gDec iX10_setClass_ok 7 rfl) rfl rfl (Nat.le_of_ble_eq_true rfl) rfl (gFit_rm (by decide) (by decide)) rfl ?_
      refine go_top (v' := 0) (gWi_f (by rw [i2l_toInt]; exact h2)) ?_
      refine go_if_ne (t := 29) (q := 19) (gDec iX10_setClass_ok 8 rfl) (by decide) rfl (fun c16 => False.elim (c16 rfl)) (fun c16 => ?_)
      exact go_throw th_IllegalArgumentException (List.mem_of_getElem? (i := 15) rfl) rfl rfl (gDec iX10_setClass_ok 9 rfl) (gDec iX10_setClass_ok 10 rfl) (gDec iX10_setClass_ok 11 rfl) (gDec iX10_setClass_ok 12 rfl) (gDec iX10_setClass_ok 13 rfl) (by decide) (by decide)
  · rw [show fSetClass σ g b c = (xIOB, σ) from if_neg h1]
    refine go_aload_n (q := 1) (gDec iX10_setClass_ok 0 rfl) rfl rfl rfl ?_
    refine go_iload_n (q := 2) (gDec iX10_setClass_ok 1 rfl) rfl rfl rfl ?_
    exact go_callV_x kX10_96 (ctX10_requireGlyph_x hW h1) (gDec iX10_setClass_ok 2 rfl) rfl rfl (by decide) rfl rfl rfl (Nat.le_of_ble_eq_true rfl) (gFit_rm (by decide) (by decide)) rfl

def gFolW (σ : gST) (g s L : Nat) (d : Int32) : gST := gPut (gPut (gRem σ) 17 (g * 2 + s) (nI L)) 19 (g * 2 + s) d
def fFollow (σ : gST) (g s lg ls d : Int32) : gO × gST := if gInS σ g s ∧ gInS σ lg ls then
    if -200 ≤ d.toInt ∧ d.toInt ≤ 200 then
      if gLd (gLe σ) (nA g * 2 + nA s) 49 (some (nA lg * 2 + nA ls)) = true then (xUOE, σ)
      else (rI (gSd (gFolW σ (nA g) (nA s) (nA lg * 2 + nA ls) d) (nA g * 2 + nA s)), gFolW σ (nA g) (nA s) (nA lg * 2 + nA ls) d)
    else (xIAE, σ)
  else (xIOB, σ)
theorem gFolW_dw {σ : gST} {g s L : Nat} {d : Int32} (hW : gDW σ) (hL : L < 48) : gDW (gFolW σ g s L d) := by
  have h := (gRem_D σ).dw hW
  unfold gFolW
  obtain ⟨h1, h2, h3, h4, h5, h6, h7⟩ := h
  refine ⟨?_, ?_, ?_, ?_, ?_, ?_, ?_⟩
  · rw [gPut_ne _ _ _ (by decide), gPut_ne _ _ _ (by decide)]; exact h1
  · rw [gPut_ne _ _ _ (by decide), gPut_ne _ _ _ (by decide)]; exact h2
  · rw [gPut_ne _ _ _ (by decide), gPut_ne _ _ _ (by decide)]; exact h3
  · intro a ha
    rw [gPut_ne _ _ _ (by decide), gPut_at]
    split
    · rw [nI_toInt (by omega)]; omega
    · exact h4 a ha
  · rw [gPut_ne _ _ _ (by decide), gPut_ne _ _ _ (by decide)]; exact h5
  · rw [gPut_ne _ _ _ (by decide), gPut_ne _ _ _ (by decide)]; exact h6
  · rw [gPut_ne _ _ _ (by decide), gPut_ne _ _ _ (by decide)]; exact h7
def fSide (σ : gST) (g s w : Int32) : gO × gST := if gInS σ g s then
    if 0 ≤ w.toInt ∧ w.toInt ≤ 3 then
      (rI (if w = 0 then gSd σ (nA g * 2 + nA s) else if w = 1 then lI ((gLe σ (nA g * 2 + nA s)).map (fun b => b / 2)) else if w = 2 then lI ((gLe σ (nA g * 2 + nA s)).map (fun b => b % 2)) else nI (gCnt (gLe σ) 48 (nA g * 2 + nA s) 0)), σ)
    else (xIAE, σ)
  else (xIOB, σ)

set_option maxHeartbeats 4000000 in
set_option maxRecDepth 100000 in
theorem ctX10_follow {κ : gK} {σ : gST} {g s lg ls d : Int32} (hW : gDW σ) (hH : gHW σ) : gCt κ mX10_follow 9 [.ref (κ.2.1 + 0), .int g, .int s, .int lg, .int ls, .int d] σ (fFollow σ g s lg ls d).1 (fFollow σ g s lg ls d).2 1 := by
  refine ct_of (by decide +kernel) rfl (Nat.le_of_ble_eq_true rfl) rfl ?_
  by_cases h1 : gInS σ g s
  · by_cases h1b : gInS σ lg ls
    · have hs : fFollow σ g s lg ls d = _ := if_pos ⟨h1, h1b⟩
      rw [hs]
      obtain ⟨i, j, hi, hj, rfl, rfl⟩ := gInS.ex h1
      obtain ⟨k, l, hk, hl, rfl, rfl⟩ := gInS.ex h1b
      have h24 := hW.ng24
      rw [nA_nI (n := i) (by omega), nA_nI (n := j) (by omega), nA_nI (n := k) (by omega), nA_nI (n := l) (by omega)]
      by_cases h2 : -200 ≤ d.toInt ∧ d.toInt ≤ 200
      · rw [if_pos h2]
        by_cases h3 : gLd (gLe σ) (i * 2 + j) 49 (some (k * 2 + l)) = true
        · rw [if_pos h3]
          refine go_aload_n (q := 1) (gDec iX10_follow_ok 0 rfl) rfl rfl rfl ?_
          refine go_iload_n (q := 2) (gDec iX10_follow_ok 1 rfl) rfl rfl rfl ?_
          refine go_iload_n (q := 3) (gDec iX10_follow_ok 2 rfl) rfl rfl rfl ?_
          refine go_callV (n2 := 0) (q := 6) kX10_190 (ctX10_rS hW hi hj) (gDec iX10_follow_ok 3 rfl) rfl rfl (by decide) rfl rfl rfl (Nat.le_of_ble_eq_true rfl) rfl (gFit_rm (by decide) (by decide)) rfl ?_
          refine go_aload_n (q := 7) (gDec iX10_follow_ok 4 rfl) rfl rfl rfl ?_
          refine go_iload_n (q := 8) (gDec iX10_follow_ok 5 rfl) rfl rfl rfl ?_
          refine go_iload (q := 10) (gDec iX10_follow_ok 6 rfl) rfl rfl ?_
          refine go_callV (n2 := 0) (q := 13) kX10_190 (ctX10_rS hW hk hl) (gDec iX10_follow_ok 7 rfl) rfl rfl (by decide) rfl rfl rfl (Nat.le_of_ble_eq_true rfl) rfl (gFit_rm (by decide) (by decide)) rfl ?_
          refine go_iload (q := 15) (gDec iX10_follow_ok 8 rfl) rfl rfl ?_
          refine go_i2l (q := 16) (gDec iX10_follow_ok 9 rfl) rfl ?_
          refine go_ldc2 (q := 19) wX10_193 (gDec iX10_follow_ok 10 rfl) rfl ?_
          refine go_ldc2 (q := 22) wX10_211 (gDec iX10_follow_ok 11 rfl) rfl ?_
          refine go_callS (n2 := 0) (q := 25) kX10_59 ctX10_isWithin (gDec iX10_follow_ok 12 rfl) rfl rfl (Nat.le_of_ble_eq_true rfl) rfl (gFit_rm (by decide) (by decide)) rfl ?_
          refine go_top (v' := 1) (gWi_t (by rw [i2l_toInt]; exact h2)) ?_
          refine go_if_ne (t := 38) (q := 28) (gDec iX10_follow_ok 13 rfl) (by decide) rfl (fun c25 => ?_) (fun c25 => False.elim (absurd c25 (by decide)))
          refine go_iload_n (q := 39) (gDec iX10_follow_ok 19 rfl) rfl rfl rfl ?_
          refine go_iload (q := 41) (gDec iX10_follow_ok 20 rfl) rfl rfl ?_
          refine go_callS (n2 := 0) (q := 44) kX10_215 ctX0_index (gDec iX10_follow_ok 21 rfl) rfl rfl (Nat.le_of_ble_eq_true rfl) rfl (gFit_rm (by decide) (by decide)) rfl ?_
          refine go_istore (q := 46) (gDec iX10_follow_ok 22 rfl) (by decide) rfl ?_
          refine go_aload_n (q := 47) (gDec iX10_follow_ok 23 rfl) rfl rfl rfl ?_
          refine go_getr (r' := 1) (q := 50) fX10_10 (gDec iX10_follow_ok 24 rfl) rfl (by decide) rfl ?_
          refine go_getr (r' := 13) (q := 53) fX10_199 (gDec iX10_follow_ok 25 rfl) rfl (by decide) rfl ?_
          refine go_iload (q := 55) (gDec iX10_follow_ok 26 rfl) rfl rfl ?_
          refine go_iload_n (q := 56) (gDec iX10_follow_ok 27 rfl) rfl rfl rfl ?_
          refine go_iload_n (q := 57) (gDec iX10_follow_ok 28 rfl) rfl rfl rfl ?_
          refine go_callS (n2 := 0) (q := 60) kX10_215 ctX0_index (gDec iX10_follow_ok 29 rfl) rfl rfl (Nat.le_of_ble_eq_true rfl) rfl (gFit_rm (by decide) (by decide)) rfl ?_
          refine go_callV (n2 := 0) (q := 63) kX10_218 (ctX0_leadsTo (f := k * 2 + l) (t := i * 2 + j) (by omega) (by omega) hW.le hW.le48) (gDec iX10_follow_ok 30 rfl) rfl rfl (by decide) rfl rfl rfl (Nat.le_of_ble_eq_true rfl) rfl (gFit_rm (by decide) (by decide)) rfl ?_
          refine go_if_eq (t := 76) (q := 66) (gDec iX10_follow_ok 31 rfl) (by decide) rfl (fun c63 => False.elim (by rw [h3] at c63; exact absurd c63 (by decide))) (fun c63 => ?_)
          exact go_throw th_UnsupportedOperationException (List.mem_of_getElem? (i := 13) rfl) rfl rfl (gDec iX10_follow_ok 32 rfl) (gDec iX10_follow_ok 33 rfl) (gDec iX10_follow_ok 34 rfl) (gDec iX10_follow_ok 35 rfl) (gDec iX10_follow_ok 36 rfl) (by decide) (by decide)
        · rw [if_neg h3]
          refine go_aload_n (q := 1) (gDec iX10_follow_ok 0 rfl) rfl rfl rfl ?_
          refine go_iload_n (q := 2) (gDec iX10_follow_ok 1 rfl) rfl rfl rfl ?_
          refine go_iload_n (q := 3) (gDec iX10_follow_ok 2 rfl) rfl rfl rfl ?_
          refine go_callV (n2 := 0) (q := 6) kX10_190 (ctX10_rS hW hi hj) (gDec iX10_follow_ok 3 rfl) rfl rfl (by decide) rfl rfl rfl (Nat.le_of_ble_eq_true rfl) rfl (gFit_rm (by decide) (by decide)) rfl ?_
          refine go_aload_n (q := 7) (gDec iX10_follow_ok 4 rfl) rfl rfl rfl ?_
          refine go_iload_n (q := 8) (gDec iX10_follow_ok 5 rfl) rfl rfl rfl ?_
          refine go_iload (q := 10) (gDec iX10_follow_ok 6 rfl) rfl rfl ?_
          refine go_callV (n2 := 0) (q := 13) kX10_190 (ctX10_rS hW hk hl) (gDec iX10_follow_ok 7 rfl) rfl rfl (by decide) rfl rfl rfl (Nat.le_of_ble_eq_true rfl) rfl (gFit_rm (by decide) (by decide)) rfl ?_
          refine go_iload (q := 15) (gDec iX10_follow_ok 8 rfl) rfl rfl ?_
          refine go_i2l (q := 16) (gDec iX10_follow_ok 9 rfl) rfl ?_
          refine go_ldc2 (q := 19) wX10_193 (gDec iX10_follow_ok 10 rfl) rfl ?_
          refine go_ldc2 (q := 22) wX10_211 (gDec iX10_follow_ok 11 rfl) rfl ?_
          refine go_callS (n2 := 0) (q := 25) kX10_59 ctX10_isWithin (gDec iX10_follow_ok 12 rfl) rfl rfl (Nat.le_of_ble_eq_true rfl) rfl (gFit_rm (by decide) (by decide)) rfl ?_
          refine go_top (v' := 1) (gWi_t (by rw [i2l_toInt]; exact h2)) ?_
          refine go_if_ne (t := 38) (q := 28) (gDec iX10_follow_ok 13 rfl) (by decide) rfl (fun c25 => ?_) (fun c25 => False.elim (absurd c25 (by decide)))
          refine go_iload_n (q := 39) (gDec iX10_follow_ok 19 rfl) rfl rfl rfl ?_
          refine go_iload (q := 41) (gDec iX10_follow_ok 20 rfl) rfl rfl ?_
          refine go_callS (n2 := 0) (q := 44) kX10_215 ctX0_index (gDec iX10_follow_ok 21 rfl) rfl rfl (Nat.le_of_ble_eq_true rfl) rfl (gFit_rm (by decide) (by decide)) rfl ?_
          refine go_istore (q := 46) (gDec iX10_follow_ok 22 rfl) (by decide) rfl ?_
          refine go_aload_n (q := 47) (gDec iX10_follow_ok 23 rfl) rfl rfl rfl ?_
          refine go_getr (r' := 1) (q := 50) fX10_10 (gDec iX10_follow_ok 24 rfl) rfl (by decide) rfl ?_
          refine go_getr (r' := 13) (q := 53) fX10_199 (gDec iX10_follow_ok 25 rfl) rfl (by decide) rfl ?_
          refine go_iload (q := 55) (gDec iX10_follow_ok 26 rfl) rfl rfl ?_
          refine go_iload_n (q := 56) (gDec iX10_follow_ok 27 rfl) rfl rfl rfl ?_
          refine go_iload_n (q := 57) (gDec iX10_follow_ok 28 rfl) rfl rfl rfl ?_
          refine go_callS (n2 := 0) (q := 60) kX10_215 ctX0_index (gDec iX10_follow_ok 29 rfl) rfl rfl (Nat.le_of_ble_eq_true rfl) rfl (gFit_rm (by decide) (by decide)) rfl ?_
          refine go_callV (n2 := 0) (q := 63) kX10_218 (ctX0_leadsTo (f := k * 2 + l) (t := i * 2 + j) (by omega) (by omega) hW.le hW.le48) (gDec iX10_follow_ok 30 rfl) rfl rfl (by decide) rfl rfl rfl (Nat.le_of_ble_eq_true rfl) rfl (gFit_rm (by decide) (by decide)) rfl ?_
          refine go_if_eq (t := 76) (q := 66) (gDec iX10_follow_ok 31 rfl) (by decide) rfl (fun c63 => ?_) (fun c63 => False.elim (c63 (by rw [Bool.eq_false_iff.mpr h3]; rfl)))
          refine go_aload_n (q := 77) (gDec iX10_follow_ok 37 rfl) rfl rfl rfl ?_
          refine go_getr (r' := 71) (q := 80) fX10_22 (gDec iX10_follow_ok 38 rfl) rfl (by decide) rfl ?_
          refine go_aload_n (q := 81) (gDec iX10_follow_ok 39 rfl) rfl rfl rfl ?_
          refine go_getr (r' := 1) (q := 84) fX10_10 (gDec iX10_follow_ok 40 rfl) rfl (by decide) rfl ?_
          refine go_callV (n2 := 0) (q := 87) kX10_89 (ctX3_rem hH) (gDec iX10_follow_ok 41 rfl) rfl rfl (by decide) rfl rfl rfl (Nat.le_of_ble_eq_true rfl) rfl (gFit_rm (by decide) (by decide)) rfl ?_
          refine go_aload_n (q := 88) (gDec iX10_follow_ok 42 rfl) rfl rfl rfl ?_
          refine go_getr (r' := 1) (q := 91) fX10_10 (gDec iX10_follow_ok 43 rfl) rfl (by decide) rfl ?_
          refine go_getr (r' := 13) (q := 94) fX10_199 (gDec iX10_follow_ok 44 rfl) rfl (by decide) rfl ?_
          refine go_iload_n (q := 95) (gDec iX10_follow_ok 45 rfl) rfl rfl rfl ?_
          refine go_iload_n (q := 96) (gDec iX10_follow_ok 46 rfl) rfl rfl rfl ?_
          refine go_iload (q := 98) (gDec iX10_follow_ok 47 rfl) rfl rfl ?_
          refine go_iload (q := 100) (gDec iX10_follow_ok 48 rfl) rfl rfl ?_
          refine go_callV (n2 := 0) (q := 103) kX10_227 (ctX0_setRule (g := i) (s := j) (by omega) hj) (gDec iX10_follow_ok 49 rfl) rfl rfl (by decide) rfl rfl rfl (Nat.le_of_ble_eq_true rfl) rfl (gFit_rm (by decide) (by decide)) rfl ?_
          refine go_w (show _ = gFolW σ i j (k * 2 + l) d from rfl) ?_
          refine go_aload_n (q := 104) (gDec iX10_follow_ok 50 rfl) rfl rfl rfl ?_
          refine go_getr (r' := 1) (q := 107) fX10_10 (gDec iX10_follow_ok 51 rfl) rfl (by decide) rfl ?_
          refine go_getr (r' := 13) (q := 110) fX10_199 (gDec iX10_follow_ok 52 rfl) rfl (by decide) rfl ?_
          refine go_iload_n (q := 111) (gDec iX10_follow_ok 53 rfl) rfl rfl rfl ?_
          refine go_iload_n (q := 112) (gDec iX10_follow_ok 54 rfl) rfl rfl rfl ?_
          refine go_callV (n2 := 0) (q := 115) kX10_203 (ctX0_valueOf (g := i) (t := j) (ld := gLe (gFolW σ i j (k * 2 + l) d)) (by omega) hj (gFolW_dw hW (by omega)).le (gFolW_dw hW (by omega)).le48) (gDec iX10_follow_ok 55 rfl) rfl rfl (by decide) rfl rfl rfl (Nat.le_of_ble_eq_true rfl) rfl (gFit_rm (by decide) (by decide)) rfl ?_
          exact go_ireturn (gDec iX10_follow_ok 56 rfl) rfl rfl rfl rfl (by decide)
      · rw [if_neg h2]
        refine go_aload_n (q := 1) (gDec iX10_follow_ok 0 rfl) rfl rfl rfl ?_
        refine go_iload_n (q := 2) (gDec iX10_follow_ok 1 rfl) rfl rfl rfl ?_
        refine go_iload_n (q := 3) (gDec iX10_follow_ok 2 rfl) rfl rfl rfl ?_
        refine go_callV (n2 := 0) (q := 6) kX10_190 (ctX10_rS hW hi hj) (gDec iX10_follow_ok 3 rfl) rfl rfl (by decide) rfl rfl rfl (Nat.le_of_ble_eq_true rfl) rfl (gFit_rm (by decide) (by decide)) rfl ?_
        refine go_aload_n (q := 7) (gDec iX10_follow_ok 4 rfl) rfl rfl rfl ?_
        refine go_iload_n (q := 8) (gDec iX10_follow_ok 5 rfl) rfl rfl rfl ?_
        refine go_iload (q := 10) (gDec iX10_follow_ok 6 rfl) rfl rfl ?_
        refine go_callV (n2 := 0) (q := 13) kX10_190 (ctX10_rS hW hk hl) (gDec iX10_follow_ok 7 rfl) rfl rfl (by decide) rfl rfl rfl (Nat.le_of_ble_eq_true rfl) rfl (gFit_rm (by decide) (by decide)) rfl ?_
        refine go_iload (q := 15) (gDec iX10_follow_ok 8 rfl) rfl rfl ?_
        refine go_i2l (q := 16) (gDec iX10_follow_ok 9 rfl) rfl ?_
        refine go_ldc2 (q := 19) wX10_193 (gDec iX10_follow_ok 10 rfl) rfl ?_
        refine go_ldc2 (q := 22) wX10_211 (gDec iX10_follow_ok 11 rfl) rfl ?_
        refine go_callS (n2 := 0) (q := 25) kX10_59 ctX10_isWithin (gDec iX10_follow_ok 12 rfl) rfl rfl (Nat.le_of_ble_eq_true rfl) rfl (gFit_rm (by decide) (by decide)) rfl ?_
        refine go_top (v' := 0) (gWi_f (by rw [i2l_toInt]; exact h2)) ?_
        refine go_if_ne (t := 38) (q := 28) (gDec iX10_follow_ok 13 rfl) (by decide) rfl (fun c25 => False.elim (c25 rfl)) (fun c25 => ?_)
        exact go_throw th_IllegalArgumentException (List.mem_of_getElem? (i := 12) rfl) rfl rfl (gDec iX10_follow_ok 14 rfl) (gDec iX10_follow_ok 15 rfl) (gDec iX10_follow_ok 16 rfl) (gDec iX10_follow_ok 17 rfl) (gDec iX10_follow_ok 18 rfl) (by decide) (by decide)
    · rw [show fFollow σ g s lg ls d = (xIOB, σ) from if_neg (fun h9 => h1b h9.2)]
      obtain ⟨i, j, hi, hj, rfl, rfl⟩ := gInS.ex h1
      refine go_aload_n (q := 1) (gDec iX10_follow_ok 0 rfl) rfl rfl rfl ?_
      refine go_iload_n (q := 2) (gDec iX10_follow_ok 1 rfl) rfl rfl rfl ?_
      refine go_iload_n (q := 3) (gDec iX10_follow_ok 2 rfl) rfl rfl rfl ?_
      refine go_callV (n2 := 0) (q := 6) kX10_190 (ctX10_rS hW hi hj) (gDec iX10_follow_ok 3 rfl) rfl rfl (by decide) rfl rfl rfl (Nat.le_of_ble_eq_true rfl) rfl (gFit_rm (by decide) (by decide)) rfl ?_
      refine go_aload_n (q := 7) (gDec iX10_follow_ok 4 rfl) rfl rfl rfl ?_
      refine go_iload_n (q := 8) (gDec iX10_follow_ok 5 rfl) rfl rfl rfl ?_
      refine go_iload (q := 10) (gDec iX10_follow_ok 6 rfl) rfl rfl ?_
      exact go_callV_x kX10_190 (ctX10_rSx hW h1b) (gDec iX10_follow_ok 7 rfl) rfl rfl (by decide) rfl rfl rfl (Nat.le_of_ble_eq_true rfl) (gFit_rm (by decide) (by decide)) rfl
  · rw [show fFollow σ g s lg ls d = (xIOB, σ) from if_neg (fun h9 => h1 h9.1)]
    refine go_aload_n (q := 1) (gDec iX10_follow_ok 0 rfl) rfl rfl rfl ?_
    refine go_iload_n (q := 2) (gDec iX10_follow_ok 1 rfl) rfl rfl rfl ?_
    refine go_iload_n (q := 3) (gDec iX10_follow_ok 2 rfl) rfl rfl rfl ?_
    exact go_callV_x kX10_190 (ctX10_rSx hW h1) (gDec iX10_follow_ok 3 rfl) rfl rfl (by decide) rfl rfl rfl (Nat.le_of_ble_eq_true rfl) (gFit_rm (by decide) (by decide)) rfl

set_option maxHeartbeats 4000000 in
set_option maxRecDepth 100000 in
theorem ctX10_side {κ : gK} {σ : gST} {g s w : Int32} (hW : gDW σ) : gCt κ mX10_side 9 [.ref (κ.2.1 + 0), .int g, .int s, .int w] σ (fSide σ g s w).1 (fSide σ g s w).2 1 := by
  refine ct_of (by decide +kernel) rfl (Nat.le_of_ble_eq_true rfl) rfl ?_
  by_cases h1 : gInS σ g s
  · have hs : fSide σ g s w = _ := if_pos h1
    rw [hs]
    obtain ⟨i, j, hi, hj, rfl, rfl⟩ := gInS.ex h1
    have h24 := hW.ng24
    rw [nA_nI (n := i) (by omega), nA_nI (n := j) (by omega)]
    by_cases h2 : 0 ≤ w.toInt ∧ w.toInt ≤ 3
    · rw [if_pos h2]
      obtain ⟨k, hk, rfl⟩ := gIn_ex (n := 4) (show 0 ≤ w.toInt ∧ w.toInt ≤ ((4 : Nat) : Int) - 1 from h2)
      rcases (by omega : k = 0 ∨ k = 1 ∨ k = 2 ∨ k = 3) with h9 | h9 | h9 | h9 <;> subst h9
      · rw [if_pos (show nI 0 = 0 from rfl)]
        refine go_aload_n (q := 1) (gDec iX10_side_ok 0 rfl) rfl rfl rfl ?_
        refine go_iload_n (q := 2) (gDec iX10_side_ok 1 rfl) rfl rfl rfl ?_
        refine go_iload_n (q := 3) (gDec iX10_side_ok 2 rfl) rfl rfl rfl ?_
        refine go_callV (n2 := 0) (q := 6) kX10_190 (ctX10_rS hW hi hj) (gDec iX10_side_ok 3 rfl) rfl rfl (by decide) rfl rfl rfl (Nat.le_of_ble_eq_true rfl) rfl (gFit_rm (by decide) (by decide)) rfl ?_
        refine go_iload_n (q := 7) (gDec iX10_side_ok 4 rfl) rfl rfl rfl ?_
        refine go_i2l (q := 8) (gDec iX10_side_ok 5 rfl) rfl ?_
        refine go_lconst (v := 0) (q := 9) (gDec iX10_side_ok 6 rfl) (by decide) rfl ?_
        refine go_ldc2 (q := 12) wX10_231 (gDec iX10_side_ok 7 rfl) rfl ?_
        refine go_callS (n2 := 0) (q := 15) kX10_59 ctX10_isWithin (gDec iX10_side_ok 8 rfl) rfl rfl (Nat.le_of_ble_eq_true rfl) rfl (gFit_rm (by decide) (by decide)) rfl ?_
        refine go_top (v' := 1) (gWi_t (by rw [i2l_toInt]; exact h2)) ?_
        refine go_if_ne (t := 28) (q := 18) (gDec iX10_side_ok 9 rfl) (by decide) rfl (fun c15 => ?_) (fun c15 => False.elim (absurd c15 (by decide)))
        refine go_iload_n (q := 29) (gDec iX10_side_ok 15 rfl) rfl rfl rfl ?_
        refine go_tableIn (off := 27) (t := 56) (gDec iX10_side_ok 16 rfl) (by decide) (by decide) rfl (by decide) ?_
        refine go_aload_n (q := 57) (gDec iX10_side_ok 17 rfl) rfl rfl rfl ?_
        refine go_getr (r' := 1) (q := 60) fX10_10 (gDec iX10_side_ok 18 rfl) rfl (by decide) rfl ?_
        refine go_getr (r' := 13) (q := 63) fX10_199 (gDec iX10_side_ok 19 rfl) rfl (by decide) rfl ?_
        refine go_iload_n (q := 64) (gDec iX10_side_ok 20 rfl) rfl rfl rfl ?_
        refine go_iload_n (q := 65) (gDec iX10_side_ok 21 rfl) rfl rfl rfl ?_
        refine go_callV (n2 := 0) (q := 68) kX10_203 (ctX0_valueOf (g := i) (t := j) (ld := gLe σ) (by omega) hj hW.le hW.le48) (gDec iX10_side_ok 22 rfl) rfl rfl (by decide) rfl rfl rfl (Nat.le_of_ble_eq_true rfl) rfl (gFit_rm (by decide) (by decide)) rfl ?_
        exact go_ireturn (gDec iX10_side_ok 23 rfl) rfl rfl rfl rfl (by decide)
      · rw [if_neg (by decide), if_pos (show nI 1 = 1 from rfl)]
        refine go_aload_n (q := 1) (gDec iX10_side_ok 0 rfl) rfl rfl rfl ?_
        refine go_iload_n (q := 2) (gDec iX10_side_ok 1 rfl) rfl rfl rfl ?_
        refine go_iload_n (q := 3) (gDec iX10_side_ok 2 rfl) rfl rfl rfl ?_
        refine go_callV (n2 := 0) (q := 6) kX10_190 (ctX10_rS hW hi hj) (gDec iX10_side_ok 3 rfl) rfl rfl (by decide) rfl rfl rfl (Nat.le_of_ble_eq_true rfl) rfl (gFit_rm (by decide) (by decide)) rfl ?_
        refine go_iload_n (q := 7) (gDec iX10_side_ok 4 rfl) rfl rfl rfl ?_
        refine go_i2l (q := 8) (gDec iX10_side_ok 5 rfl) rfl ?_
        refine go_lconst (v := 0) (q := 9) (gDec iX10_side_ok 6 rfl) (by decide) rfl ?_
        refine go_ldc2 (q := 12) wX10_231 (gDec iX10_side_ok 7 rfl) rfl ?_
        refine go_callS (n2 := 0) (q := 15) kX10_59 ctX10_isWithin (gDec iX10_side_ok 8 rfl) rfl rfl (Nat.le_of_ble_eq_true rfl) rfl (gFit_rm (by decide) (by decide)) rfl ?_
        refine go_top (v' := 1) (gWi_t (by rw [i2l_toInt]; exact h2)) ?_
        refine go_if_ne (t := 28) (q := 18) (gDec iX10_side_ok 9 rfl) (by decide) rfl (fun c15 => ?_) (fun c15 => False.elim (absurd c15 (by decide)))
        refine go_iload_n (q := 29) (gDec iX10_side_ok 15 rfl) rfl rfl rfl ?_
        refine go_tableIn (off := 40) (t := 69) (gDec iX10_side_ok 16 rfl) (by decide) (by decide) rfl (by decide) ?_
        refine go_aload_n (q := 70) (gDec iX10_side_ok 24 rfl) rfl rfl rfl ?_
        refine go_getr (r' := 1) (q := 73) fX10_10 (gDec iX10_side_ok 25 rfl) rfl (by decide) rfl ?_
        refine go_getr (r' := 13) (q := 76) fX10_199 (gDec iX10_side_ok 26 rfl) rfl (by decide) rfl ?_
        refine go_iload_n (q := 77) (gDec iX10_side_ok 27 rfl) rfl rfl rfl ?_
        refine go_iload_n (q := 78) (gDec iX10_side_ok 28 rfl) rfl rfl rfl ?_
        refine go_callV (n2 := 0) (q := 81) kX10_235 (ctX0_leaderGlyph (g := i) (t := j) (ld := gLe σ) (by omega) hj hW.le hW.le48) (gDec iX10_side_ok 29 rfl) rfl rfl (by decide) rfl rfl rfl (Nat.le_of_ble_eq_true rfl) rfl (gFit_rm (by decide) (by decide)) rfl ?_
        exact go_ireturn (gDec iX10_side_ok 30 rfl) rfl rfl rfl rfl (by decide)
      · rw [if_neg (by decide), if_neg (by decide), if_pos (show nI 2 = 2 from rfl)]
        refine go_aload_n (q := 1) (gDec iX10_side_ok 0 rfl) rfl rfl rfl ?_
        refine go_iload_n (q := 2) (gDec iX10_side_ok 1 rfl) rfl rfl rfl ?_
        refine go_iload_n (q := 3) (gDec iX10_side_ok 2 rfl) rfl rfl rfl ?_
        refine go_callV (n2 := 0) (q := 6) kX10_190 (ctX10_rS hW hi hj) (gDec iX10_side_ok 3 rfl) rfl rfl (by decide) rfl rfl rfl (Nat.le_of_ble_eq_true rfl) rfl (gFit_rm (by decide) (by decide)) rfl ?_
        refine go_iload_n (q := 7) (gDec iX10_side_ok 4 rfl) rfl rfl rfl ?_
        refine go_i2l (q := 8) (gDec iX10_side_ok 5 rfl) rfl ?_
        refine go_lconst (v := 0) (q := 9) (gDec iX10_side_ok 6 rfl) (by decide) rfl ?_
        refine go_ldc2 (q := 12) wX10_231 (gDec iX10_side_ok 7 rfl) rfl ?_
        refine go_callS (n2 := 0) (q := 15) kX10_59 ctX10_isWithin (gDec iX10_side_ok 8 rfl) rfl rfl (Nat.le_of_ble_eq_true rfl) rfl (gFit_rm (by decide) (by decide)) rfl ?_
        refine go_top (v' := 1) (gWi_t (by rw [i2l_toInt]; exact h2)) ?_
        refine go_if_ne (t := 28) (q := 18) (gDec iX10_side_ok 9 rfl) (by decide) rfl (fun c15 => ?_) (fun c15 => False.elim (absurd c15 (by decide)))
        refine go_iload_n (q := 29) (gDec iX10_side_ok 15 rfl) rfl rfl rfl ?_
        refine go_tableIn (off := 53) (t := 82) (gDec iX10_side_ok 16 rfl) (by decide) (by decide) rfl (by decide) ?_
        refine go_aload_n (q := 83) (gDec iX10_side_ok 31 rfl) rfl rfl rfl ?_
        refine go_getr (r' := 1) (q := 86) fX10_10 (gDec iX10_side_ok 32 rfl) rfl (by decide) rfl ?_
        refine go_getr (r' := 13) (q := 89) fX10_199 (gDec iX10_side_ok 33 rfl) rfl (by decide) rfl ?_
        refine go_iload_n (q := 90) (gDec iX10_side_ok 34 rfl) rfl rfl rfl ?_
        refine go_iload_n (q := 91) (gDec iX10_side_ok 35 rfl) rfl rfl rfl ?_
        refine go_callV (n2 := 0) (q := 94) kX10_238 (ctX0_leaderSide (g := i) (t := j) (ld := gLe σ) (by omega) hj hW.le hW.le48) (gDec iX10_side_ok 36 rfl) rfl rfl (by decide) rfl rfl rfl (Nat.le_of_ble_eq_true rfl) rfl (gFit_rm (by decide) (by decide)) rfl ?_
        exact go_ireturn (gDec iX10_side_ok 37 rfl) rfl rfl rfl rfl (by decide)
      · rw [if_neg (by decide), if_neg (by decide), if_neg (by decide)]
        refine go_aload_n (q := 1) (gDec iX10_side_ok 0 rfl) rfl rfl rfl ?_
        refine go_iload_n (q := 2) (gDec iX10_side_ok 1 rfl) rfl rfl rfl ?_
        refine go_iload_n (q := 3) (gDec iX10_side_ok 2 rfl) rfl rfl rfl ?_
        refine go_callV (n2 := 0) (q := 6) kX10_190 (ctX10_rS hW hi hj) (gDec iX10_side_ok 3 rfl) rfl rfl (by decide) rfl rfl rfl (Nat.le_of_ble_eq_true rfl) rfl (gFit_rm (by decide) (by decide)) rfl ?_
        refine go_iload_n (q := 7) (gDec iX10_side_ok 4 rfl) rfl rfl rfl ?_
        refine go_i2l (q := 8) (gDec iX10_side_ok 5 rfl) rfl ?_
        refine go_lconst (v := 0) (q := 9) (gDec iX10_side_ok 6 rfl) (by decide) rfl ?_
        refine go_ldc2 (q := 12) wX10_231 (gDec iX10_side_ok 7 rfl) rfl ?_
        refine go_callS (n2 := 0) (q := 15) kX10_59 ctX10_isWithin (gDec iX10_side_ok 8 rfl) rfl rfl (Nat.le_of_ble_eq_true rfl) rfl (gFit_rm (by decide) (by decide)) rfl ?_
        refine go_top (v' := 1) (gWi_t (by rw [i2l_toInt]; exact h2)) ?_
        refine go_if_ne (t := 28) (q := 18) (gDec iX10_side_ok 9 rfl) (by decide) rfl (fun c15 => ?_) (fun c15 => False.elim (absurd c15 (by decide)))
        refine go_iload_n (q := 29) (gDec iX10_side_ok 15 rfl) rfl rfl rfl ?_
        refine go_tableOut (t := 95) (gDec iX10_side_ok 16 rfl) (by decide) (by decide) ?_
        refine go_aload_n (q := 96) (gDec iX10_side_ok 38 rfl) rfl rfl rfl ?_
        refine go_getr (r' := 1) (q := 99) fX10_10 (gDec iX10_side_ok 39 rfl) rfl (by decide) rfl ?_
        refine go_getr (r' := 13) (q := 102) fX10_199 (gDec iX10_side_ok 40 rfl) rfl (by decide) rfl ?_
        refine go_iload_n (q := 103) (gDec iX10_side_ok 41 rfl) rfl rfl rfl ?_
        refine go_iload_n (q := 104) (gDec iX10_side_ok 42 rfl) rfl rfl rfl ?_
        refine go_callV (n2 := 0) (q := 107) kX10_241 (ctX0_ruleCount (g := i) (t := j) (ld := gLe σ) (by omega) hj hW.le hW.le48) (gDec iX10_side_ok 43 rfl) rfl rfl (by decide) rfl rfl rfl (Nat.le_of_ble_eq_true rfl) rfl (gFit_rm (by decide) (by decide)) rfl ?_
        exact go_ireturn (gDec iX10_side_ok 44 rfl) rfl rfl rfl rfl (by decide)
    · rw [if_neg h2]
      refine go_aload_n (q := 1) (gDec iX10_side_ok 0 rfl) rfl rfl rfl ?_
      refine go_iload_n (q := 2) (gDec iX10_side_ok 1 rfl) rfl rfl rfl ?_
      refine go_iload_n (q := 3) (gDec iX10_side_ok 2 rfl) rfl rfl rfl ?_
      refine go_callV (n2 := 0) (q := 6) kX10_190 (ctX10_rS hW hi hj) (gDec iX10_side_ok 3 rfl) rfl rfl (by decide) rfl rfl rfl (Nat.le_of_ble_eq_true rfl) rfl (gFit_rm (by decide) (by decide)) rfl ?_
      refine go_iload_n (q := 7) (gDec iX10_side_ok 4 rfl) rfl rfl rfl ?_
      refine go_i2l (q := 8) (gDec iX10_side_ok 5 rfl) rfl ?_
      refine go_lconst (v := 0) (q := 9) (gDec iX10_side_ok 6 rfl) (by decide) rfl ?_
      refine go_ldc2 (q := 12) wX10_231 (gDec iX10_side_ok 7 rfl) rfl ?_
      refine go_callS (n2 := 0) (q := 15) kX10_59 ctX10_isWithin (gDec iX10_side_ok 8 rfl) rfl rfl (Nat.le_of_ble_eq_true rfl) rfl (gFit_rm (by decide) (by decide)) rfl ?_
      refine go_top (v' := 0) (gWi_f (by rw [i2l_toInt]; exact h2)) ?_
      refine go_if_ne (t := 28) (q := 18) (gDec iX10_side_ok 9 rfl) (by decide) rfl (fun c15 => False.elim (c15 rfl)) (fun c15 => ?_)
      exact go_throw th_IllegalArgumentException (List.mem_of_getElem? (i := 14) rfl) rfl rfl (gDec iX10_side_ok 10 rfl) (gDec iX10_side_ok 11 rfl) (gDec iX10_side_ok 12 rfl) (gDec iX10_side_ok 13 rfl) (gDec iX10_side_ok 14 rfl) (by decide) (by decide)
  · rw [show fSide σ g s w = (xIOB, σ) from if_neg h1]
    refine go_aload_n (q := 1) (gDec iX10_side_ok 0 rfl) rfl rfl rfl ?_
    refine go_iload_n (q := 2) (gDec iX10_side_ok 1 rfl) rfl rfl rfl ?_
    refine go_iload_n (q := 3) (gDec iX10_side_ok 2 rfl) rfl rfl rfl ?_
    exact go_callV_x kX10_190 (ctX10_rSx hW h1) (gDec iX10_side_ok 3 rfl) rfl rfl (by decide) rfl rfl rfl (Nat.le_of_ble_eq_true rfl) (gFit_rm (by decide) (by decide)) rfl
