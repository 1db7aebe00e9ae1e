def gBpS (σ : gST) (g : Nat) (z : Int32) (k : Nat) (a : Int32) : Int32 := a + gPop (gBlack σ z ((2 * (-5 + nI k) + 1) * 500) (-5) 34 g)
def fIsBlack (σ : gST) (g z c r : Int32) : gO × gST := if gInG σ g then
    if (6 ≤ z.toInt ∧ z.toInt ≤ 60) ∧ ((-100 ≤ c.toInt ∧ c.toInt ≤ 100) ∧ (-100 ≤ r.toInt ∧ r.toInt ≤ 100)) then
      (rI (if gBlack σ z ((2 * r + 1) * 500) c 0 (nA g) = 0 then 0 else 1), σ)
    else (xIAE, σ)
  else (xIOB, σ)
def fBlackPixels (σ : gST) (g z : Int32) : gO × gST := if gInG σ g then
    if 6 ≤ z.toInt ∧ z.toInt ≤ 24 then (rI (gLoop (gBpS σ (nA g) z) 0 35 0), σ) else (xIAE, σ)
  else (xIOB, σ)
def gMean (σ : gST) : UInt64 := FP.ddiv (FP.i2d (gLoop (fun g a => a + gAdv σ g) 0 (gNg σ) 0)) (FP.i2d (nI (gNg σ)))
def fMean (σ : gST) : gO × gST := if gNg σ = 0 then (xARI, σ) else (.inl (some (.double (gMean σ))), σ)

set_option maxHeartbeats 4000000 in
set_option maxRecDepth 100000 in
theorem ctX10_isBlack {κ : gK} {σ : gST} {g z c r : Int32} (hW : gDW σ) : gCt κ mX10_isBlack 9 [.ref (κ.2.1 + 0), .int g, .int z, .int c, .int r] σ (fIsBlack σ g z c r).1 (fIsBlack σ g z c r).2 1 := by
  refine ct_of (by decide +kernel) rfl (Nat.le_of_ble_eq_true rfl) rfl ?_
  by_cases h1 : gInG σ g
  · have hs : fIsBlack σ g z c r = _ := if_pos h1
    rw [hs]
    obtain ⟨i, hi, rfl⟩ := gInG.ex h1
    have h24 := hW.ng24
    rw [nA_nI (n := i) (by omega)]
    by_cases h2 : (6 ≤ z.toInt ∧ z.toInt ≤ 60) ∧ ((-100 ≤ c.toInt ∧ c.toInt ≤ 100) ∧ (-100 ≤ r.toInt ∧ r.toInt ≤ 100))
    · rw [if_pos h2]
      by_cases h3 : gBlack σ z ((2 * r + 1) * 500) c 0 i = 0
      · rw [if_pos h3]
        refine go_aload_n (q := 1) (gDec iX10_isBlack_ok 0 rfl) rfl rfl rfl ?_
        refine go_iload_n (q := 2) (gDec iX10_isBlack_ok 1 rfl) rfl rfl rfl ?_
        refine go_callV (n2 := 0) (q := 5) kX10_96 (ctX10_rG hW hi) (gDec iX10_isBlack_ok 2 rfl) rfl rfl (by decide) rfl rfl rfl (Nat.le_of_ble_eq_true rfl) rfl (gFit_rm (by decide) (by decide)) rfl ?_
        refine go_iload_n (q := 6) (gDec iX10_isBlack_ok 3 rfl) rfl rfl rfl ?_
        refine go_bipush (v := 60) (q := 8) (gDec iX10_isBlack_ok 4 rfl) (by decide) rfl ?_
        refine go_callS (n2 := 0) (q := 11) kX10_324 (ctX10_requireGrid (m := 60) h2.1) (gDec iX10_isBlack_ok 5 rfl) rfl rfl (Nat.le_of_ble_eq_true rfl) rfl (gFit_rm (by decide) (by decide)) rfl ?_
        refine go_iload_n (q := 12) (gDec iX10_isBlack_ok 6 rfl) rfl rfl rfl ?_
        refine go_i2l (q := 13) (gDec iX10_isBlack_ok 7 rfl) rfl ?_
        refine go_ldc2 (q := 16) wX10_336 (gDec iX10_isBlack_ok 8 rfl) rfl ?_
        refine go_ldc2 (q := 19) wX10_338 (gDec iX10_isBlack_ok 9 rfl) rfl ?_
        refine go_callS (n2 := 0) (q := 22) kX10_59 ctX10_isWithin (gDec iX10_isBlack_ok 10 rfl) rfl rfl (Nat.le_of_ble_eq_true rfl) rfl (gFit_rm (by decide) (by decide)) rfl ?_
        refine go_top (v' := 1) (gWi_t (by rw [i2l_toInt]; exact h2.2.1)) ?_
        refine go_if_eq (t := 40) (q := 25) (gDec iX10_isBlack_ok 11 rfl) (by decide) rfl (fun c22 => False.elim (absurd c22 (by decide))) (fun c22 => ?_)
        refine go_iload (q := 27) (gDec iX10_isBlack_ok 12 rfl) rfl rfl ?_
        refine go_i2l (q := 28) (gDec iX10_isBlack_ok 13 rfl) rfl ?_
        refine go_ldc2 (q := 31) wX10_336 (gDec iX10_isBlack_ok 14 rfl) rfl ?_
        refine go_ldc2 (q := 34) wX10_338 (gDec iX10_isBlack_ok 15 rfl) rfl ?_
        refine go_callS (n2 := 0) (q := 37) kX10_59 ctX10_isWithin (gDec iX10_isBlack_ok 16 rfl) rfl rfl (Nat.le_of_ble_eq_true rfl) rfl (gFit_rm (by decide) (by decide)) rfl ?_
        refine go_top (v' := 1) (gWi_t (by rw [i2l_toInt]; exact h2.2.2)) ?_
        refine go_if_ne (t := 51) (q := 40) (gDec iX10_isBlack_ok 17 rfl) (by decide) rfl (fun c37 => ?_) (fun c37 => False.elim (absurd c37 (by decide)))
        refine go_aload_n (q := 52) (gDec iX10_isBlack_ok 23 rfl) rfl rfl rfl ?_
        refine go_getr (r' := 1) (q := 55) fX10_10 (gDec iX10_isBlack_ok 24 rfl) rfl (by decide) rfl ?_
        refine go_getr (r' := 2) (q := 58) fX10_70 (gDec iX10_isBlack_ok 25 rfl) rfl (by decide) rfl ?_
        refine go_iload_n (q := 59) (gDec iX10_isBlack_ok 26 rfl) rfl rfl rfl ?_
        refine go_iload_n (q := 60) (gDec iX10_isBlack_ok 27 rfl) rfl rfl rfl ?_
        refine go_iload (q := 62) (gDec iX10_isBlack_ok 28 rfl) rfl rfl ?_
        refine go_iload_n (q := 63) (gDec iX10_isBlack_ok 29 rfl) rfl rfl rfl ?_
        refine go_iload_n (q := 64) (gDec iX10_isBlack_ok 30 rfl) rfl rfl rfl ?_
        refine go_top (v' := c + nI 0) (by rw [show nI 0 = (0 : Int32) from rfl, Int32.add_zero]) ?_
        refine go_callV (n2 := 0) (q := 67) kX10_342 (ctX5_blackBits (g := i) (n := 0) (z := z) (row := r) (F := c) (by omega) hW (by omega) (by omega)) (gDec iX10_isBlack_ok 31 rfl) rfl rfl (by decide) rfl rfl rfl (Nat.le_of_ble_eq_true rfl) rfl (gFit_rm (by decide) (by decide)) rfl ?_
        refine go_lconst (v := 0) (q := 68) (gDec iX10_isBlack_ok 32 rfl) (by decide) rfl ?_
        refine go_lcmp (q := 69) (gDec iX10_isBlack_ok 33 rfl) rfl ?_
        refine go_if_eq (t := 76) (q := 72) (gDec iX10_isBlack_ok 34 rfl) (by decide) rfl (fun c69 => ?_) (fun c69 => False.elim (c69 ((lg_cmp_eq _ _).mpr h3)))
        refine go_iconst (v := 0) (q := 77) (gDec iX10_isBlack_ok 37 rfl) (by decide) rfl ?_
        exact go_ireturn (gDec iX10_isBlack_ok 38 rfl) rfl rfl rfl rfl (by decide)
      · rw [if_neg h3]
        refine go_aload_n (q := 1) (gDec iX10_isBlack_ok 0 rfl) rfl rfl rfl ?_
        refine go_iload_n (q := 2) (gDec iX10_isBlack_ok 1 rfl) rfl rfl rfl ?_
        refine go_callV (n2 := 0) (q := 5) kX10_96 (ctX10_rG hW hi) (gDec iX10_isBlack_ok 2 rfl) rfl rfl (by decide) rfl rfl rfl (Nat.le_of_ble_eq_true rfl) rfl (gFit_rm (by decide) (by decide)) rfl ?_
        refine go_iload_n (q := 6) (gDec iX10_isBlack_ok 3 rfl) rfl rfl rfl ?_
        refine go_bipush (v := 60) (q := 8) (gDec iX10_isBlack_ok 4 rfl) (by decide) rfl ?_
        refine go_callS (n2 := 0) (q := 11) kX10_324 (ctX10_requireGrid (m := 60) h2.1) (gDec iX10_isBlack_ok 5 rfl) rfl rfl (Nat.le_of_ble_eq_true rfl) rfl (gFit_rm (by decide) (by decide)) rfl ?_
        refine go_iload_n (q := 12) (gDec iX10_isBlack_ok 6 rfl) rfl rfl rfl ?_
        refine go_i2l (q := 13) (gDec iX10_isBlack_ok 7 rfl) rfl ?_
        refine go_ldc2 (q := 16) wX10_336 (gDec iX10_isBlack_ok 8 rfl) rfl ?_
        refine go_ldc2 (q := 19) wX10_338 (gDec iX10_isBlack_ok 9 rfl) rfl ?_
        refine go_callS (n2 := 0) (q := 22) kX10_59 ctX10_isWithin (gDec iX10_isBlack_ok 10 rfl) rfl rfl (Nat.le_of_ble_eq_true rfl) rfl (gFit_rm (by decide) (by decide)) rfl ?_
        refine go_top (v' := 1) (gWi_t (by rw [i2l_toInt]; exact h2.2.1)) ?_
        refine go_if_eq (t := 40) (q := 25) (gDec iX10_isBlack_ok 11 rfl) (by decide) rfl (fun c22 => False.elim (absurd c22 (by decide))) (fun c22 => ?_)
        refine go_iload (q := 27) (gDec iX10_isBlack_ok 12 rfl) rfl rfl ?_
        refine go_i2l (q := 28) (gDec iX10_isBlack_ok 13 rfl) rfl ?_
        refine go_ldc2 (q := 31) wX10_336 (gDec iX10_isBlack_ok 14 rfl) rfl ?_
        refine go_ldc2 (q := 34) wX10_338 (gDec iX10_isBlack_ok 15 rfl) rfl ?_
        refine go_callS (n2 := 0) (q := 37) kX10_59 ctX10_isWithin (gDec iX10_isBlack_ok 16 rfl) rfl rfl (Nat.le_of_ble_eq_true rfl) rfl (gFit_rm (by decide) (by decide)) rfl ?_
        refine go_top (v' := 1) (gWi_t (by rw [i2l_toInt]; exact h2.2.2)) ?_
        refine go_if_ne (t := 51) (q := 40) (gDec iX10_isBlack_ok 17 rfl) (by decide) rfl (fun c37 => ?_) (fun c37 => False.elim (absurd c37 (by decide)))
        refine go_aload_n (q := 52) (gDec iX10_isBlack_ok 23 rfl) rfl rfl rfl ?_
        refine go_getr (r' := 1) (q := 55) fX10_10 (gDec iX10_isBlack_ok 24 rfl) rfl (by decide) rfl ?_
        refine go_getr (r' := 2) (q := 58) fX10_70 (gDec iX10_isBlack_ok 25 rfl) rfl (by decide) rfl ?_
        refine go_iload_n (q := 59) (gDec iX10_isBlack_ok 26 rfl) rfl rfl rfl ?_
        refine go_iload_n (q := 60) (gDec iX10_isBlack_ok 27 rfl) rfl rfl rfl ?_
        refine go_iload (q := 62) (gDec iX10_isBlack_ok 28 rfl) rfl rfl ?_
        refine go_iload_n (q := 63) (gDec iX10_isBlack_ok 29 rfl) rfl rfl rfl ?_
        refine go_iload_n (q := 64) (gDec iX10_isBlack_ok 30 rfl) rfl rfl rfl ?_
        refine go_top (v' := c + nI 0) (by rw [show nI 0 = (0 : Int32) from rfl, Int32.add_zero]) ?_
        refine go_callV (n2 := 0) (q := 67) kX10_342 (ctX5_blackBits (g := i) (n := 0) (z := z) (row := r) (F := c) (by omega) hW (by omega) (by omega)) (gDec iX10_isBlack_ok 31 rfl) rfl rfl (by decide) rfl rfl rfl (Nat.le_of_ble_eq_true rfl) rfl (gFit_rm (by decide) (by decide)) rfl ?_
        refine go_lconst (v := 0) (q := 68) (gDec iX10_isBlack_ok 32 rfl) (by decide) rfl ?_
        refine go_lcmp (q := 69) (gDec iX10_isBlack_ok 33 rfl) rfl ?_
        refine go_if_eq (t := 76) (q := 72) (gDec iX10_isBlack_ok 34 rfl) (by decide) rfl (fun c69 => False.elim (h3 ((lg_cmp_eq _ _).mp c69))) (fun c69 => ?_)
        refine go_iconst (v := 1) (q := 73) (gDec iX10_isBlack_ok 35 rfl) (by decide) rfl ?_
        refine go_goto (t := 77) (gDec iX10_isBlack_ok 36 rfl) (by decide) ?_
        exact go_ireturn (gDec iX10_isBlack_ok 38 rfl) rfl rfl rfl rfl (by decide)
    · rw [if_neg h2]
      by_cases h4 : 6 ≤ z.toInt ∧ z.toInt ≤ 60
      · by_cases h5 : -100 ≤ c.toInt ∧ c.toInt ≤ 100
        · have h6 : ¬ (-100 ≤ r.toInt ∧ r.toInt ≤ 100) := fun h9 => h2 ⟨h4, h5, h9⟩
          refine go_aload_n (q := 1) (gDec iX10_isBlack_ok 0 rfl) rfl rfl rfl ?_
          refine go_iload_n (q := 2) (gDec iX10_isBlack_ok 1 rfl) rfl rfl rfl ?_
          refine go_callV (n2 := 0) (q := 5) kX10_96 (ctX10_rG hW hi) (gDec iX10_isBlack_ok 2 rfl) rfl rfl (by decide) rfl rfl rfl (Nat.le_of_ble_eq_true rfl) rfl (gFit_rm (by decide) (by decide)) rfl ?_
          refine go_iload_n (q := 6) (gDec iX10_isBlack_ok 3 rfl) rfl rfl rfl ?_
          refine go_bipush (v := 60) (q := 8) (gDec iX10_isBlack_ok 4 rfl) (by decide) rfl ?_
          refine go_callS (n2 := 0) (q := 11) kX10_324 (ctX10_requireGrid (m := 60) h4) (gDec iX10_isBlack_ok 5 rfl) rfl rfl (Nat.le_of_ble_eq_true rfl) rfl (gFit_rm (by decide) (by decide)) rfl ?_
          refine go_iload_n (q := 12) (gDec iX10_isBlack_ok 6 rfl) rfl rfl rfl ?_
          refine go_i2l (q := 13) (gDec iX10_isBlack_ok 7 rfl) rfl ?_
          refine go_ldc2 (q := 16) wX10_336 (gDec iX10_isBlack_ok 8 rfl) rfl ?_
          refine go_ldc2 (q := 19) wX10_338 (gDec iX10_isBlack_ok 9 rfl) rfl ?_
          refine go_callS (n2 := 0) (q := 22) kX10_59 ctX10_isWithin (gDec iX10_isBlack_ok 10 rfl) rfl rfl (Nat.le_of_ble_eq_true rfl) rfl (gFit_rm (by decide) (by decide)) rfl ?_
          refine go_top (v' := 1) (gWi_t (by rw [i2l_toInt]; exact h5)) ?_
          refine go_if_eq (t := 40) (q := 25) (gDec iX10_isBlack_ok 11 rfl) (by decide) rfl (fun c22 => False.elim (absurd c22 (by decide))) (fun c22 => ?_)
          refine go_iload (q := 27) (gDec iX10_isBlack_ok 12 rfl) rfl rfl ?_
          refine go_i2l (q := 28) (gDec iX10_isBlack_ok 13 rfl) rfl ?_
          refine go_ldc2 (q := 31) wX10_336 (gDec iX10_isBlack_ok 14 rfl) rfl ?_
          refine go_ldc2 (q := 34) wX10_338 (gDec iX10_isBlack_ok 15 rfl) rfl ?_
          refine go_callS (n2 := 0) (q := 37) kX10_59 ctX10_isWithin (gDec iX10_isBlack_ok 16 rfl) rfl rfl (Nat.le_of_ble_eq_true rfl) rfl (gFit_rm (by decide) (by decide)) rfl ?_
          refine go_top (v' := 0) (gWi_f (by rw [i2l_toInt]; exact h6)) ?_
          refine go_if_ne (t := 51) (q := 40) (gDec iX10_isBlack_ok 17 rfl) (by decide) rfl (fun c37 => False.elim (c37 rfl)) (fun c37 => ?_)
          exact go_throwW th_IllegalArgumentException (List.mem_of_getElem? (i := 24) rfl) rfl rfl (gDec iX10_isBlack_ok 18 rfl) (gDec iX10_isBlack_ok 19 rfl) (gDec iX10_isBlack_ok 20 rfl) (gDec iX10_isBlack_ok 21 rfl) (gDec iX10_isBlack_ok 22 rfl) (by decide) (by decide)
        · skip
          refine go_aload_n (q := 1) (gDec iX10_isBlack_ok 0 rfl) rfl rfl rfl ?_
          refine go_iload_n (q := 2) (gDec iX10_isBlack_ok 1 rfl) rfl rfl rfl ?_
          refine go_callV (n2 := 0) (q := 5) kX10_96 (ctX10_rG hW hi) (gDec iX10_isBlack_ok 2 rfl) rfl rfl (by decide) rfl rfl rfl (Nat.le_of_ble_eq_true rfl) rfl (gFit_rm (by decide) (by decide)) rfl ?_
          refine go_iload_n (q := 6) (gDec iX10_isBlack_ok 3 rfl) rfl rfl rfl ?_
          refine go_bipush (v := 60) (q := 8) (gDec iX10_isBlack_ok 4 rfl) (by decide) rfl ?_
          refine go_callS (n2 := 0) (q := 11) kX10_324 (ctX10_requireGrid (m := 60) h4) (gDec iX10_isBlack_ok 5 rfl) rfl rfl (Nat.le_of_ble_eq_true rfl) rfl (gFit_rm (by decide) (by decide)) rfl ?_
          refine go_iload_n (q := 12) (gDec iX10_isBlack_ok 6 rfl) rfl rfl rfl ?_
          refine go_i2l (q := 13) (gDec iX10_isBlack_ok 7 rfl) rfl ?_
          refine go_ldc2 (q := 16) wX10_336 (gDec iX10_isBlack_ok 8 rfl) rfl ?_
          refine go_ldc2 (q := 19) wX10_338 (gDec iX10_isBlack_ok 9 rfl) rfl ?_
          refine go_callS (n2 := 0) (q := 22) kX10_59 ctX10_isWithin (gDec iX10_isBlack_ok 10 rfl) rfl rfl (Nat.le_of_ble_eq_true rfl) rfl (gFit_rm (by decide) (by decide)) rfl ?_
          refine go_top (v' := 0) (gWi_f (by rw [i2l_toInt]; exact h5)) ?_
          refine go_if_eq (t := 40) (q := 25) (gDec iX10_isBlack_ok 11 rfl) (by decide) rfl (fun c22 => ?_) (fun c22 => False.elim (c22 rfl))
          exact go_throwW th_IllegalArgumentException (List.mem_of_getElem? (i := 24) rfl) rfl rfl (gDec iX10_isBlack_ok 18 rfl) (gDec iX10_isBlack_ok 19 rfl) (gDec iX10_isBlack_ok 20 rfl) (gDec iX10_isBlack_ok 21 rfl) (gDec iX10_isBlack_ok 22 rfl) (by decide) (by decide)
      · skip
        refine go_aload_n (q := 1) (gDec iX10_isBlack_ok 0 rfl) rfl rfl rfl ?_
        refine go_iload_n (q := 2) (gDec iX10_isBlack_ok 1 rfl) rfl rfl rfl ?_
        refine go_callV (n2 := 0) (q := 5) kX10_96 (ctX10_rG hW hi) (gDec iX10_isBlack_ok 2 rfl) rfl rfl (by decide) rfl rfl rfl (Nat.le_of_ble_eq_true rfl) rfl (gFit_rm (by decide) (by decide)) rfl ?_
        refine go_iload_n (q := 6) (gDec iX10_isBlack_ok 3 rfl) rfl rfl rfl ?_
        refine go_bipush (v := 60) (q := 8) (gDec iX10_isBlack_ok 4 rfl) (by decide) rfl ?_
        exact go_callS_x kX10_324 (ctX10_requireGrid_x (m := 60) h4) (gDec iX10_isBlack_ok 5 rfl) rfl rfl (Nat.le_of_ble_eq_true rfl) (gFit_rm (by decide) (by decide)) rfl
  · rw [show fIsBlack σ g z c r = (xIOB, σ) from if_neg h1]
    refine go_aload_n (q := 1) (gDec iX10_isBlack_ok 0 rfl) rfl rfl rfl ?_
    refine go_iload_n (q := 2) (gDec iX10_isBlack_ok 1 rfl) rfl rfl rfl ?_
    exact go_callV_x kX10_96 (ctX10_requireGlyph_x hW h1) (gDec iX10_isBlack_ok 2 rfl) rfl rfl (by decide) rfl rfl rfl (Nat.le_of_ble_eq_true rfl) (gFit_rm (by decide) (by decide)) rfl

set_option maxHeartbeats 4000000 in
set_option maxRecDepth 100000 in
theorem lpX10_bp {κ : gK} {Z : gZ} {σ : gST} {g : Nat} {z : Int32} (hg : g < 24) (hW : gDW σ) : ∀ (m i : Nat) (a : Int32), i + m = 35 → Go κ mX10_blackPixels (gRm 9 1) Z 54 [(0, .ref (κ.2.1 + 0)), (1, .int (nI g)), (2, .int z), (3, .int (gLoop (gBpS σ g z) i m a)), (4, .int (-5 + nI 35))] [] σ 0 → Go κ mX10_blackPixels (gRm 9 1) Z 17 [(0, .ref (κ.2.1 + 0)), (1, .int (nI g)), (2, .int z), (3, .int a), (4, .int (-5 + nI i))] [] σ 0 := by
  intro m
  induction m with
  | zero =>
    intro i a hi h
    have hiN : i = 35 := by omega
    subst hiN
    refine go_iload (q := 19) (gDec iX10_blackPixels_ok 10 rfl) rfl rfl ?_
    refine go_bipush (v := 29) (q := 21) (gDec iX10_blackPixels_ok 11 rfl) (by decide) rfl ?_
    refine go_icmp_gt (t := 54) (q := 24) (gDec iX10_blackPixels_ok 12 rfl) (by decide) rfl (fun c21 => ?_) (fun c21 => False.elim (c21 (by decide)))
    exact h
  | succ m ih =>
    intro i a hi h
    refine go_iload (q := 19) (gDec iX10_blackPixels_ok 10 rfl) rfl rfl ?_
    refine go_bipush (v := 29) (q := 21) (gDec iX10_blackPixels_ok 11 rfl) (by decide) rfl ?_
    refine go_icmp_gt (t := 54) (q := 24) (gDec iX10_blackPixels_ok 12 rfl) (by decide) rfl (fun c21 => False.elim (absurd c21 (by rw [show (29 : Int32) = -5 + nI 34 from by decide]; exact fun h9 => absurd ((gCol_gt (F := -5) (i := i) (n := 34) (by decide) (by omega) (by decide)).mp h9) (by omega)))) (fun c21 => ?_)
    refine go_iload_n (q := 25) (gDec iX10_blackPixels_ok 13 rfl) rfl rfl rfl ?_
    refine go_aload_n (q := 26) (gDec iX10_blackPixels_ok 14 rfl) rfl rfl rfl ?_
    refine go_getr (r' := 1) (q := 29) fX10_10 (gDec iX10_blackPixels_ok 15 rfl) rfl (by decide) rfl ?_
    refine go_getr (r' := 2) (q := 32) fX10_70 (gDec iX10_blackPixels_ok 16 rfl) rfl (by decide) rfl ?_
    refine go_iload_n (q := 33) (gDec iX10_blackPixels_ok 17 rfl) rfl rfl rfl ?_
    refine go_iload_n (q := 34) (gDec iX10_blackPixels_ok 18 rfl) rfl rfl rfl ?_
    refine go_iload (q := 36) (gDec iX10_blackPixels_ok 19 rfl) rfl rfl ?_
    refine go_bipush (v := (-5)) (q := 38) (gDec iX10_blackPixels_ok 20 rfl) (by decide) rfl ?_
    refine go_bipush (v := 29) (q := 40) (gDec iX10_blackPixels_ok 21 rfl) (by decide) rfl ?_
    refine go_top (v' := -5 + nI 34) (by decide) ?_
    refine go_callV (n2 := 0) (q := 43) kX10_342 (ctX5_blackBits (g := g) (n := 34) (z := z) (row := -5 + nI i) (F := -5) hg hW (by decide) (by decide)) (gDec iX10_blackPixels_ok 22 rfl) rfl rfl (by decide) rfl rfl rfl (Nat.le_of_ble_eq_true rfl) rfl (gFit_rm (by decide) (by decide)) rfl ?_
    refine go_callS (n2 := 0) (q := 46) kX10_346 ctJ13_bitCount_95d88 (gDec iX10_blackPixels_ok 23 rfl) rfl rfl (Nat.le_of_ble_eq_true rfl) rfl (gFit_rm (by decide) (by decide)) rfl ?_
    refine go_iadd (q := 47) (gDec iX10_blackPixels_ok 24 rfl) rfl ?_
    refine go_istore_n (q := 48) (gDec iX10_blackPixels_ok 25 rfl) rfl (by decide) rfl ?_
    refine go_iinc (v := -5 + nI (i + 1)) (q := 51) (gDec iX10_blackPixels_ok 26 rfl) rfl (gCol_1 _ i) (by decide) rfl ?_
    refine go_goto (t := 17) (gDec iX10_blackPixels_ok 27 rfl) (by decide) ?_
    refine go_sub (L' := [(0, .ref (κ.2.1 + 0)), (1, .int (nI g)), (2, .int z), (3, .int (gBpS σ g z i a)), (4, .int (-5 + nI (i + 1)))]) ⟨rfl, rfl, rfl, rfl, rfl, trivial⟩ ?_
    exact ih (i + 1) (gBpS σ g z i a) (by omega) h

set_option maxHeartbeats 4000000 in
set_option maxRecDepth 100000 in
theorem ctX10_blackPixels {κ : gK} {σ : gST} {g z : Int32} (hW : gDW σ) : gCt κ mX10_blackPixels 9 [.ref (κ.2.1 + 0), .int g, .int z] σ (fBlackPixels σ g z).1 (fBlackPixels σ g z).2 1 := by
  refine ct_of (by decide +kernel) rfl (Nat.le_of_ble_eq_true rfl) rfl ?_
  by_cases h1 : gInG σ g
  · have hs : fBlackPixels σ g z = _ := if_pos h1
    rw [hs]
    obtain ⟨i, hi, rfl⟩ := gInG.ex h1
    have h24 := hW.ng24
    rw [nA_nI (n := i) (by omega)]
    by_cases h2 : 6 ≤ z.toInt ∧ z.toInt ≤ 24
    · rw [if_pos h2]
      refine go_aload_n (q := 1) (gDec iX10_blackPixels_ok 0 rfl) rfl rfl rfl ?_
      refine go_iload_n (q := 2) (gDec iX10_blackPixels_ok 1 rfl) rfl rfl rfl ?_
      refine go_callV (n2 := 0) (q := 5) kX10_96 (ctX10_rG hW hi) (gDec iX10_blackPixels_ok 2 rfl) rfl rfl (by decide) rfl rfl rfl (Nat.le_of_ble_eq_true rfl) rfl (gFit_rm (by decide) (by decide)) rfl ?_
      refine go_iload_n (q := 6) (gDec iX10_blackPixels_ok 3 rfl) rfl rfl rfl ?_
      refine go_bipush (v := 24) (q := 8) (gDec iX10_blackPixels_ok 4 rfl) (by decide) rfl ?_
      refine go_callS (n2 := 0) (q := 11) kX10_324 (ctX10_requireGrid (m := 24) h2) (gDec iX10_blackPixels_ok 5 rfl) rfl rfl (Nat.le_of_ble_eq_true rfl) rfl (gFit_rm (by decide) (by decide)) rfl ?_
      refine go_iconst (v := 0) (q := 12) (gDec iX10_blackPixels_ok 6 rfl) (by decide) rfl ?_
      refine go_istore_n (q := 13) (gDec iX10_blackPixels_ok 7 rfl) rfl (by decide) rfl ?_
      refine go_bipush (v := (-5)) (q := 15) (gDec iX10_blackPixels_ok 8 rfl) (by decide) rfl ?_
      refine go_istore (q := 17) (gDec iX10_blackPixels_ok 9 rfl) (by decide) rfl ?_
      refine go_sub (L' := [(0, .ref (κ.2.1 + 0)), (1, .int (nI i)), (2, .int z), (3, .int 0), (4, .int (-5 + nI 0))]) ⟨rfl, rfl, rfl, rfl, rfl, trivial⟩ ?_
      refine lpX10_bp (by omega) hW 35 0 0 (by omega) ?_
      refine go_iload_n (q := 55) (gDec iX10_blackPixels_ok 28 rfl) rfl rfl rfl ?_
      exact go_ireturn (gDec iX10_blackPixels_ok 29 rfl) rfl rfl rfl rfl (by decide)
    · rw [if_neg h2]
      refine go_aload_n (q := 1) (gDec iX10_blackPixels_ok 0 rfl) rfl rfl rfl ?_
      refine go_iload_n (q := 2) (gDec iX10_blackPixels_ok 1 rfl) rfl rfl rfl ?_
      refine go_callV (n2 := 0) (q := 5) kX10_96 (ctX10_rG hW hi) (gDec iX10_blackPixels_ok 2 rfl) rfl rfl (by decide) rfl rfl rfl (Nat.le_of_ble_eq_true rfl) rfl (gFit_rm (by decide) (by decide)) rfl ?_
      refine go_iload_n (q := 6) (gDec iX10_blackPixels_ok 3 rfl) rfl rfl rfl ?_
      refine go_bipush (v := 24) (q := 8) (gDec iX10_blackPixels_ok 4 rfl) (by decide) rfl ?_
      exact go_callS_x kX10_324 (ctX10_requireGrid_x (m := 24) h2) (gDec iX10_blackPixels_ok 5 rfl) rfl rfl (Nat.le_of_ble_eq_true rfl) (gFit_rm (by decide) (by decide)) rfl
  · rw [show fBlackPixels σ g z = (xIOB, σ) from if_neg h1]
    refine go_aload_n (q := 1) (gDec iX10_blackPixels_ok 0 rfl) rfl rfl rfl ?_
    refine go_iload_n (q := 2) (gDec iX10_blackPixels_ok 1 rfl) rfl rfl rfl ?_
    exact go_callV_x kX10_96 (ctX10_requireGlyph_x hW h1) (gDec iX10_blackPixels_ok 2 rfl) rfl rfl (by decide) rfl rfl rfl (Nat.le_of_ble_eq_true rfl) (gFit_rm (by decide) (by decide)) rfl

set_option maxHeartbeats 4000000 in
set_option maxRecDepth 100000 in
theorem ctX10_meanAdvance {κ : gK} {σ : gST} (hW : gDW σ) (hn : 0 < gNg σ → vf_n64 (gMean σ)) : gCt κ mX10_meanAdvance 9 [.ref (κ.2.1 + 0)] σ (fMean σ).1 (fMean σ).2 1 := by
  refine ct_of (by decide +kernel) rfl (Nat.le_of_ble_eq_true rfl) rfl ?_
  have h24 := hW.ng24
  by_cases h1 : gNg σ = 0
  · rw [show fMean σ = _ from if_pos h1]
    refine go_aload_n (q := 1) (gDec iX10_meanAdvance_ok 0 rfl) rfl rfl rfl ?_
    refine go_getr (r' := 1) (q := 4) fX10_10 (gDec iX10_meanAdvance_ok 1 rfl) rfl (by decide) rfl ?_
    refine go_getr (r' := 2) (q := 7) fX10_70 (gDec iX10_meanAdvance_ok 2 rfl) rfl (by decide) rfl ?_
    refine go_callV (n2 := 0) (q := 10) kX10_432 ctX5_glyphCount (gDec iX10_meanAdvance_ok 3 rfl) rfl rfl (by decide) rfl rfl rfl (Nat.le_of_ble_eq_true rfl) rfl (gFit_rm (by decide) (by decide)) rfl ?_
    refine go_top (v' := nI (gNg σ)) (hW.ng) ?_
    refine go_istore_n (q := 11) (gDec iX10_meanAdvance_ok 4 rfl) rfl (by decide) rfl ?_
    refine go_iload_n (q := 12) (gDec iX10_meanAdvance_ok 5 rfl) rfl rfl rfl ?_
    refine go_if_ne (t := 26) (q := 15) (gDec iX10_meanAdvance_ok 6 rfl) (by decide) rfl (fun c12 => False.elim (c12 (by rw [h1]; rfl))) (fun c12 => ?_)
    exact go_throwW th_ArithmeticException (List.mem_of_getElem? (i := 35) rfl) rfl rfl (gDec iX10_meanAdvance_ok 7 rfl) (gDec iX10_meanAdvance_ok 8 rfl) (gDec iX10_meanAdvance_ok 9 rfl) (gDec iX10_meanAdvance_ok 10 rfl) (gDec iX10_meanAdvance_ok 11 rfl) (by decide) (by decide)
  · rw [show fMean σ = _ from if_neg h1]
    refine go_aload_n (q := 1) (gDec iX10_meanAdvance_ok 0 rfl) rfl rfl rfl ?_
    refine go_getr (r' := 1) (q := 4) fX10_10 (gDec iX10_meanAdvance_ok 1 rfl) rfl (by decide) rfl ?_
    refine go_getr (r' := 2) (q := 7) fX10_70 (gDec iX10_meanAdvance_ok 2 rfl) rfl (by decide) rfl ?_
    refine go_callV (n2 := 0) (q := 10) kX10_432 ctX5_glyphCount (gDec iX10_meanAdvance_ok 3 rfl) rfl rfl (by decide) rfl rfl rfl (Nat.le_of_ble_eq_true rfl) rfl (gFit_rm (by decide) (by decide)) rfl ?_
    refine go_top (v' := nI (gNg σ)) (hW.ng) ?_
    refine go_istore_n (q := 11) (gDec iX10_meanAdvance_ok 4 rfl) rfl (by decide) rfl ?_
    refine go_iload_n (q := 12) (gDec iX10_meanAdvance_ok 5 rfl) rfl rfl rfl ?_
    refine go_if_ne (t := 26) (q := 15) (gDec iX10_meanAdvance_ok 6 rfl) (by decide) rfl (fun c12 => ?_) (fun c12 => False.elim (nI_ne0 (n := gNg σ) (by omega) (by omega) c12))
    refine go_aload_n (q := 27) (gDec iX10_meanAdvance_ok 12 rfl) rfl rfl rfl ?_
    refine go_getr (r' := 1) (q := 30) fX10_10 (gDec iX10_meanAdvance_ok 13 rfl) rfl (by decide) rfl ?_
    refine go_callV (n2 := 0) (q := 33) kX10_440 (ctX1_advanceSum hW) (gDec iX10_meanAdvance_ok 14 rfl) rfl rfl (by decide) rfl rfl rfl (Nat.le_of_ble_eq_true rfl) rfl (gFit_rm (by decide) (by decide)) rfl ?_
    refine go_i2d (q := 34) (gDec iX10_meanAdvance_ok 15 rfl) rfl ?_
    refine go_iload_n (q := 35) (gDec iX10_meanAdvance_ok 16 rfl) rfl rfl rfl ?_
    refine go_i2d (q := 36) (gDec iX10_meanAdvance_ok 17 rfl) rfl ?_
    refine go_ddiv (q := 37) (gDec iX10_meanAdvance_ok 18 rfl) (hn (by omega)) rfl ?_
    exact go_dreturn (gDec iX10_meanAdvance_ok 19 rfl) rfl rfl rfl (by decide)
