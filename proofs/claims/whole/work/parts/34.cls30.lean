theorem l2i_add (x y : Int32) : (x.toInt64 + y.toInt64).toInt32 = x + y := by simp
def fMovePoint (σ : gST) (g c p dx dy : Int32) : gO × gST := if gInP σ g c p then
    if gCo ((σ.1 10 ((nA g * 3 + nA c) * 12 + nA p)).toInt + dx.toInt) ((σ.1 12 ((nA g * 3 + nA c) * 12 + nA p)).toInt + dy.toInt) then
      (rI (σ.1 10 ((nA g * 3 + nA c) * 12 + nA p) + dx), gPut (gPut (gRem σ) 10 ((nA g * 3 + nA c) * 12 + nA p) (σ.1 10 ((nA g * 3 + nA c) * 12 + nA p) + dx)) 12 ((nA g * 3 + nA c) * 12 + nA p) (σ.1 12 ((nA g * 3 + nA c) * 12 + nA p) + dy))
    else (xIAE, σ)
  else (xIOB, σ)
def gShW (σ : gST) (g : Nat) (dx dy : Int32) : gST := gLoop (gMvC g dx dy (gNp σ g)) 0 (gNc σ g) (gRem σ)
def fShift (σ : gST) (g dx dy : Int32) : gO × gST := if gInG σ g then
    if gNc σ (nA g) = 0 ∨ (gCo ((gEx false (σ.1 10) (gNp σ (nA g)) (nA g) (gNc σ (nA g))).toInt + dx.toInt) ((gEx false (σ.1 12) (gNp σ (nA g)) (nA g) (gNc σ (nA g))).toInt + dy.toInt) ∧
      gCo ((gEx true (σ.1 10) (gNp σ (nA g)) (nA g) (gNc σ (nA g))).toInt + dx.toInt) ((gEx true (σ.1 12) (gNp σ (nA g)) (nA g) (gNc σ (nA g))).toInt + dy.toInt)) then
      (rI (gEx false ((gShW σ (nA g) dx dy).1 10) (gNp σ (nA g)) (nA g) (gNc σ (nA g))), gShW σ (nA g) dx dy)
    else (xIAE, σ)
  else (xIOB, σ)

set_option maxHeartbeats 4000000 in
set_option maxRecDepth 100000 in
theorem ctX10_movePoint {κ : gK} {σ : gST} {g c p dx dy : Int32} (hW : gDW σ) (hH : gHW σ) : gCt κ mX10_movePoint 9 [.ref (κ.2.1 + 0), .int g, .int c, .int p, .int dx, .int dy] σ (fMovePoint σ g c p dx dy).1 (fMovePoint σ g c p dx dy).2 1 := by
  refine ct_of (by decide +kernel) rfl (Nat.le_of_ble_eq_true rfl) rfl ?_
  by_cases h1 : gInP σ g c p
  · have hs : fMovePoint σ g c p dx dy = _ := if_pos h1
    rw [hs]
    obtain ⟨i, j, q, hi, hj, hq, rfl, rfl, rfl⟩ := gInP.ex hW h1
    have h24 := hW.ng24
    have h3 := hW.nc3 (g := i) (by omega)
    have h12 := hW.np12 (g := i) (c := j) (by omega) (by omega)
    rw [nA_nI (n := i) (by omega), nA_nI (n := j) (by omega), nA_nI (n := q) (by omega)]
    by_cases h2 : gCo ((σ.1 10 ((i * 3 + j) * 12 + q)).toInt + dx.toInt) ((σ.1 12 ((i * 3 + j) * 12 + q)).toInt + dy.toInt)
    · rw [if_pos h2]
      refine go_aload_n (q := 1) (gDec iX10_movePoint_ok 0 rfl) rfl rfl rfl ?_
      refine go_iload_n (q := 2) (gDec iX10_movePoint_ok 1 rfl) rfl rfl rfl ?_
      refine go_iload_n (q := 3) (gDec iX10_movePoint_ok 2 rfl) rfl rfl rfl ?_
      refine go_iload_n (q := 4) (gDec iX10_movePoint_ok 3 rfl) rfl rfl rfl ?_
      refine go_callV (n2 := 0) (q := 7) kX10_115 (ctX10_rP hW hi hj hq) (gDec iX10_movePoint_ok 4 rfl) rfl rfl (by decide) rfl rfl rfl (Nat.le_of_ble_eq_true rfl) rfl (gFit_rm (by decide) (by decide)) rfl ?_
      refine go_aload_n (q := 8) (gDec iX10_movePoint_ok 5 rfl) rfl rfl rfl ?_
      refine go_getr (r' := 1) (q := 11) fX10_10 (gDec iX10_movePoint_ok 6 rfl) rfl (by decide) rfl ?_
      refine go_getr (r' := 2) (q := 14) fX10_70 (gDec iX10_movePoint_ok 7 rfl) rfl (by decide) rfl ?_
      refine go_iload_n (q := 15) (gDec iX10_movePoint_ok 8 rfl) rfl rfl rfl ?_
      refine go_iload_n (q := 16) (gDec iX10_movePoint_ok 9 rfl) rfl rfl rfl ?_
      refine go_iload_n (q := 17) (gDec iX10_movePoint_ok 10 rfl) rfl rfl rfl ?_
      refine go_callV (n2 := 0) (q := 20) kX10_119 (ctX5_xOf (g := i) (c := j) (p := q) (by omega) (by omega) (by omega)) (gDec iX10_movePoint_ok 11 rfl) rfl rfl (by decide) rfl rfl rfl (Nat.le_of_ble_eq_true rfl) rfl (gFit_rm (by decide) (by decide)) rfl ?_
      refine go_i2l (q := 21) (gDec iX10_movePoint_ok 12 rfl) rfl ?_
      refine go_iload (q := 23) (gDec iX10_movePoint_ok 13 rfl) rfl rfl ?_
      refine go_i2l (q := 24) (gDec iX10_movePoint_ok 14 rfl) rfl ?_
      refine go_ladd (q := 25) (gDec iX10_movePoint_ok 15 rfl) rfl ?_
      refine go_lstore (q := 27) (gDec iX10_movePoint_ok 16 rfl) (by decide) rfl ?_
      refine go_aload_n (q := 28) (gDec iX10_movePoint_ok 17 rfl) rfl rfl rfl ?_
      refine go_getr (r' := 1) (q := 31) fX10_10 (gDec iX10_movePoint_ok 18 rfl) rfl (by decide) rfl ?_
      refine go_getr (r' := 2) (q := 34) fX10_70 (gDec iX10_movePoint_ok 19 rfl) rfl (by decide) rfl ?_
      refine go_iload_n (q := 35) (gDec iX10_movePoint_ok 20 rfl) rfl rfl rfl ?_
      refine go_iload_n (q := 36) (gDec iX10_movePoint_ok 21 rfl) rfl rfl rfl ?_
      refine go_iload_n (q := 37) (gDec iX10_movePoint_ok 22 rfl) rfl rfl rfl ?_
      refine go_callV (n2 := 0) (q := 40) kX10_123 (ctX5_yOf (g := i) (c := j) (p := q) (by omega) (by omega) (by omega)) (gDec iX10_movePoint_ok 23 rfl) rfl rfl (by decide) rfl rfl rfl (Nat.le_of_ble_eq_true rfl) rfl (gFit_rm (by decide) (by decide)) rfl ?_
      refine go_i2l (q := 41) (gDec iX10_movePoint_ok 24 rfl) rfl ?_
      refine go_iload (q := 43) (gDec iX10_movePoint_ok 25 rfl) rfl rfl ?_
      refine go_i2l (q := 44) (gDec iX10_movePoint_ok 26 rfl) rfl ?_
      refine go_ladd (q := 45) (gDec iX10_movePoint_ok 27 rfl) rfl ?_
      refine go_lstore (q := 47) (gDec iX10_movePoint_ok 28 rfl) (by decide) rfl ?_
      refine go_lload (q := 49) (gDec iX10_movePoint_ok 29 rfl) rfl rfl ?_
      refine go_lload (q := 51) (gDec iX10_movePoint_ok 30 rfl) rfl rfl ?_
      refine go_callS (n2 := 0) (q := 54) kX10_102 (ctX10_requireCoordinates (x := (σ.1 10 ((i * 3 + j) * 12 + q)).toInt64 + dx.toInt64) (y := (σ.1 12 ((i * 3 + j) * 12 + q)).toInt64 + dy.toInt64) (by rw [l_add, l_add]; exact h2)) (gDec iX10_movePoint_ok 31 rfl) rfl rfl (Nat.le_of_ble_eq_true rfl) rfl (gFit_rm (by decide) (by decide)) rfl ?_
      refine go_aload_n (q := 55) (gDec iX10_movePoint_ok 32 rfl) rfl rfl rfl ?_
      refine go_getr (r' := 71) (q := 58) fX10_22 (gDec iX10_movePoint_ok 33 rfl) rfl (by decide) rfl ?_
      refine go_aload_n (q := 59) (gDec iX10_movePoint_ok 34 rfl) rfl rfl rfl ?_
      refine go_getr (r' := 1) (q := 62) fX10_10 (gDec iX10_movePoint_ok 35 rfl) rfl (by decide) rfl ?_
      refine go_callV (n2 := 0) (q := 65) kX10_89 (ctX3_rem hH) (gDec iX10_movePoint_ok 36 rfl) rfl rfl (by decide) rfl rfl rfl (Nat.le_of_ble_eq_true rfl) rfl (gFit_rm (by decide) (by decide)) rfl ?_
      refine go_aload_n (q := 66) (gDec iX10_movePoint_ok 37 rfl) rfl rfl rfl ?_
      refine go_getr (r' := 1) (q := 69) fX10_10 (gDec iX10_movePoint_ok 38 rfl) rfl (by decide) rfl ?_
      refine go_getr (r' := 2) (q := 72) fX10_70 (gDec iX10_movePoint_ok 39 rfl) rfl (by decide) rfl ?_
      refine go_iload_n (q := 73) (gDec iX10_movePoint_ok 40 rfl) rfl rfl rfl ?_
      refine go_iload_n (q := 74) (gDec iX10_movePoint_ok 41 rfl) rfl rfl rfl ?_
      refine go_iload_n (q := 75) (gDec iX10_movePoint_ok 42 rfl) rfl rfl rfl ?_
      refine go_lload (q := 77) (gDec iX10_movePoint_ok 43 rfl) rfl rfl ?_
      refine go_l2i (q := 78) (gDec iX10_movePoint_ok 44 rfl) rfl ?_
      refine go_top (v' := σ.1 10 ((i * 3 + j) * 12 + q) + dx) (l2i_add _ _) ?_
      refine go_lload (q := 80) (gDec iX10_movePoint_ok 45 rfl) rfl rfl ?_
      refine go_l2i (q := 81) (gDec iX10_movePoint_ok 46 rfl) rfl ?_
      refine go_top (v' := σ.1 12 ((i * 3 + j) * 12 + q) + dy) (l2i_add _ _) ?_
      refine go_callV (n2 := 0) (q := 84) kX10_126 (ctX5_setPoint (g := i) (c := j) (p := q) (by omega) (by omega) (by omega)) (gDec iX10_movePoint_ok 47 rfl) rfl rfl (by decide) rfl rfl rfl (Nat.le_of_ble_eq_true rfl) rfl (gFit_rm (by decide) (by decide)) rfl ?_
      refine go_lload (q := 86) (gDec iX10_movePoint_ok 48 rfl) rfl rfl ?_
      refine go_l2i (q := 87) (gDec iX10_movePoint_ok 49 rfl) rfl ?_
      refine go_top (v' := σ.1 10 ((i * 3 + j) * 12 + q) + dx) (l2i_add _ _) ?_
      exact go_ireturn (gDec iX10_movePoint_ok 50 rfl) rfl rfl rfl rfl (by decide)
    · rw [if_neg h2]
      refine go_aload_n (q := 1) (gDec iX10_movePoint_ok 0 rfl) rfl rfl rfl ?_
      refine go_iload_n (q := 2) (gDec iX10_movePoint_ok 1 rfl) rfl rfl rfl ?_
      refine go_iload_n (q := 3) (gDec iX10_movePoint_ok 2 rfl) rfl rfl rfl ?_
      refine go_iload_n (q := 4) (gDec iX10_movePoint_ok 3 rfl) rfl rfl rfl ?_
      refine go_callV (n2 := 0) (q := 7) kX10_115 (ctX10_rP hW hi hj hq) (gDec iX10_movePoint_ok 4 rfl) rfl rfl (by decide) rfl rfl rfl (Nat.le_of_ble_eq_true rfl) rfl (gFit_rm (by decide) (by decide)) rfl ?_
      refine go_aload_n (q := 8) (gDec iX10_movePoint_ok 5 rfl) rfl rfl rfl ?_
      refine go_getr (r' := 1) (q := 11) fX10_10 (gDec iX10_movePoint_ok 6 rfl) rfl (by decide) rfl ?_
      refine go_getr (r' := 2) (q := 14) fX10_70 (gDec iX10_movePoint_ok 7 rfl) rfl (by decide) rfl ?_
      refine go_iload_n (q := 15) (gDec iX10_movePoint_ok 8 rfl) rfl rfl rfl ?_
      refine go_iload_n (q := 16) (gDec iX10_movePoint_ok 9 rfl) rfl rfl rfl ?_
      refine go_iload_n (q := 17) (gDec iX10_movePoint_ok 10 rfl) rfl rfl rfl ?_
      refine go_callV (n2 := 0) (q := 20) kX10_119 (ctX5_xOf (g := i) (c := j) (p := q) (by omega) (by omega) (by omega)) (gDec iX10_movePoint_ok 11 rfl) rfl rfl (by decide) rfl rfl rfl (Nat.le_of_ble_eq_true rfl) rfl (gFit_rm (by decide) (by decide)) rfl ?_
      refine go_i2l (q := 21) (gDec iX10_movePoint_ok 12 rfl) rfl ?_
      refine go_iload (q := 23) (gDec iX10_movePoint_ok 13 rfl) rfl rfl ?_
      refine go_i2l (q := 24) (gDec iX10_movePoint_ok 14 rfl) rfl ?_
      refine go_ladd (q := 25) (gDec iX10_movePoint_ok 15 rfl) rfl ?_
      refine go_lstore (q := 27) (gDec iX10_movePoint_ok 16 rfl) (by decide) rfl ?_
      refine go_aload_n (q := 28) (gDec iX10_movePoint_ok 17 rfl) rfl rfl rfl ?_
      refine go_getr (r' := 1) (q := 31) fX10_10 (gDec iX10_movePoint_ok 18 rfl) rfl (by decide) rfl ?_
      refine go_getr (r' := 2) (q := 34) fX10_70 (gDec iX10_movePoint_ok 19 rfl) rfl (by decide) rfl ?_
      refine go_iload_n (q := 35) (gDec iX10_movePoint_ok 20 rfl) rfl rfl rfl ?_
      refine go_iload_n (q := 36) (gDec iX10_movePoint_ok 21 rfl) rfl rfl rfl ?_
      refine go_iload_n (q := 37) (gDec iX10_movePoint_ok 22 rfl) rfl rfl rfl ?_
      refine go_callV (n2 := 0) (q := 40) kX10_123 (ctX5_yOf (g := i) (c := j) (p := q) (by omega) (by omega) (by omega)) (gDec iX10_movePoint_ok 23 rfl) rfl rfl (by decide) rfl rfl rfl (Nat.le_of_ble_eq_true rfl) rfl (gFit_rm (by decide) (by decide)) rfl ?_
      refine go_i2l (q := 41) (gDec iX10_movePoint_ok 24 rfl) rfl ?_
      refine go_iload (q := 43) (gDec iX10_movePoint_ok 25 rfl) rfl rfl ?_
      refine go_i2l (q := 44) (gDec iX10_movePoint_ok 26 rfl) rfl ?_
      refine go_ladd (q := 45) (gDec iX10_movePoint_ok 27 rfl) rfl ?_
      refine go_lstore (q := 47) (gDec iX10_movePoint_ok 28 rfl) (by decide) rfl ?_
      refine go_lload (q := 49) (gDec iX10_movePoint_ok 29 rfl) rfl rfl ?_
      refine go_lload (q := 51) (gDec iX10_movePoint_ok 30 rfl) rfl rfl ?_
      exact go_callS_x kX10_102 (ctX10_requireCoordinates_x (x := (σ.1 10 ((i * 3 + j) * 12 + q)).toInt64 + dx.toInt64) (y := (σ.1 12 ((i * 3 + j) * 12 + q)).toInt64 + dy.toInt64) (by rw [l_add, l_add]; exact h2)) (gDec iX10_movePoint_ok 31 rfl) rfl rfl (Nat.le_of_ble_eq_true rfl) (gFit_rm (by decide) (by decide)) rfl
  · rw [show fMovePoint σ g c p dx dy = (xIOB, σ) from if_neg h1]
    refine go_aload_n (q := 1) (gDec iX10_movePoint_ok 0 rfl) rfl rfl rfl ?_
    refine go_iload_n (q := 2) (gDec iX10_movePoint_ok 1 rfl) rfl rfl rfl ?_
    refine go_iload_n (q := 3) (gDec iX10_movePoint_ok 2 rfl) rfl rfl rfl ?_
    refine go_iload_n (q := 4) (gDec iX10_movePoint_ok 3 rfl) rfl rfl rfl ?_
    exact go_callV_x kX10_115 (ctX10_rPx hW h1) (gDec iX10_movePoint_ok 4 rfl) rfl rfl (by decide) rfl rfl rfl (Nat.le_of_ble_eq_true rfl) (gFit_rm (by decide) (by decide)) rfl

set_option maxHeartbeats 4000000 in
set_option maxRecDepth 100000 in
theorem ctX10_shift {κ : gK} {σ : gST} {g dx dy : Int32} (hW : gDW σ) (hH : gHW σ) : gCt κ mX10_shift 9 [.ref (κ.2.1 + 0), .int g, .int dx, .int dy] σ (fShift σ g dx dy).1 (fShift σ g dx dy).2 1 := by
  refine ct_of (by decide +kernel) rfl (Nat.le_of_ble_eq_true rfl) rfl ?_
  by_cases h1 : gInG σ g
  · have hs : fShift σ g dx dy = _ := if_pos h1
    rw [hs]
    obtain ⟨i, hi, rfl⟩ := gInG.ex h1
    have h24 := hW.ng24
    have hc3 := hW.nc3 (g := i) (by omega)
    rw [nA_nI (n := i) (by omega)]
    have hM : (gShW σ i dx dy).1 8 = σ.1 8 ∧ (gShW σ i dx dy).1 6 = σ.1 6 :=
      gLoop_inv (I := gMvI σ) (fun c a h => gMvC_I i dx dy (gNp σ i) c a h) _ _ _ ⟨(gRem_D σ) 8 (by decide), (gRem_D σ) 6 (by decide)⟩
    by_cases h4 : gNc σ i = 0
    · rw [if_pos (Or.inl h4)]
      refine go_aload_n (q := 1) (gDec iX10_shift_ok 0 rfl) rfl rfl rfl ?_
      refine go_iload_n (q := 2) (gDec iX10_shift_ok 1 rfl) rfl rfl rfl ?_
      refine go_callV (n2 := 0) (q := 5) kX10_96 (ctX10_rG hW hi) (gDec iX10_shift_ok 2 rfl) rfl rfl (by decide) rfl rfl rfl (Nat.le_of_ble_eq_true rfl) rfl (gFit_rm (by decide) (by decide)) rfl ?_
      refine go_aload_n (q := 6) (gDec iX10_shift_ok 3 rfl) rfl rfl rfl ?_
      refine go_getr (r' := 1) (q := 9) fX10_10 (gDec iX10_shift_ok 4 rfl) rfl (by decide) rfl ?_
      refine go_getr (r' := 2) (q := 12) fX10_70 (gDec iX10_shift_ok 5 rfl) rfl (by decide) rfl ?_
      refine go_astore (q := 14) (gDec iX10_shift_ok 6 rfl) (by decide) rfl ?_
      refine go_aload (q := 16) (gDec iX10_shift_ok 7 rfl) rfl rfl ?_
      refine go_iload_n (q := 17) (gDec iX10_shift_ok 8 rfl) rfl rfl rfl ?_
      refine go_callV (n2 := 0) (q := 20) kX10_106 (ctX5_contourCount (g := i) (by omega)) (gDec iX10_shift_ok 9 rfl) rfl rfl (by decide) rfl rfl rfl (Nat.le_of_ble_eq_true rfl) rfl (gFit_rm (by decide) (by decide)) rfl ?_
      refine go_top (v' := nI (gNc σ i)) (hW.nc (by omega)) ?_
      refine go_if_le (t := 73) (q := 23) (gDec iX10_shift_ok 10 rfl) (by decide) rfl (fun c20 => ?_) (fun c20 => False.elim (c20 (by rw [h4]; exact Int32.le_refl 0)))
      refine go_aload_n (q := 74) (gDec iX10_shift_ok 45 rfl) rfl rfl rfl ?_
      refine go_getr (r' := 71) (q := 77) fX10_22 (gDec iX10_shift_ok 46 rfl) rfl (by decide) rfl ?_
      refine go_aload_n (q := 78) (gDec iX10_shift_ok 47 rfl) rfl rfl rfl ?_
      refine go_getr (r' := 1) (q := 81) fX10_10 (gDec iX10_shift_ok 48 rfl) rfl (by decide) rfl ?_
      refine go_callV (n2 := 0) (q := 84) kX10_89 (ctX3_rem hH) (gDec iX10_shift_ok 49 rfl) rfl rfl (by decide) rfl rfl rfl (Nat.le_of_ble_eq_true rfl) rfl (gFit_rm (by decide) (by decide)) rfl ?_
      refine go_aload (q := 86) (gDec iX10_shift_ok 50 rfl) rfl rfl ?_
      refine go_iload_n (q := 87) (gDec iX10_shift_ok 51 rfl) rfl rfl rfl ?_
      refine go_iload_n (q := 88) (gDec iX10_shift_ok 52 rfl) rfl rfl rfl ?_
      refine go_iload_n (q := 89) (gDec iX10_shift_ok 53 rfl) rfl rfl rfl ?_
      refine go_callV (n2 := 0) (q := 92) kX10_137 (ctX5_moveAll (g := i) (N := gNc σ i) (pm := gNp σ i) (by omega) (hW.nc3 (by omega)) ((congrFun ((gRem_D σ) 6 (by decide)) i).trans (hW.nc (by omega))) (fun c hc => ⟨(congrFun ((gRem_D σ) 8 (by decide)) _).trans (hW.pm (by omega) c hc).1, (hW.pm (by omega) c hc).2⟩)) (gDec iX10_shift_ok 54 rfl) rfl rfl (by decide) rfl rfl rfl (Nat.le_of_ble_eq_true rfl) rfl (gFit_rm (by decide) (by decide)) rfl ?_
      refine go_w (show _ = gShW σ i dx dy from rfl) ?_
      refine go_aload (q := 94) (gDec iX10_shift_ok 55 rfl) rfl rfl ?_
      refine go_iload_n (q := 95) (gDec iX10_shift_ok 56 rfl) rfl rfl rfl ?_
      refine go_iconst (v := 0) (q := 96) (gDec iX10_shift_ok 57 rfl) (by decide) rfl ?_
      refine go_callV (n2 := 0) (q := 99) kX10_130 (ctX5_leastx (g := i) (N := gNc σ i) (pm := gNp σ i) (by omega) (hW.nc3 (by omega)) ((congrFun hM.2 i).trans (hW.nc (by omega))) (fun c hc => ⟨(congrFun hM.1 _).trans (hW.pm (by omega) c hc).1, (hW.pm (by omega) c hc).2⟩)) (gDec iX10_shift_ok 58 rfl) rfl rfl (by decide) rfl rfl rfl (Nat.le_of_ble_eq_true rfl) rfl (gFit_rm (by decide) (by decide)) rfl ?_
      exact go_ireturn (gDec iX10_shift_ok 59 rfl) rfl rfl rfl rfl (by decide)
    · by_cases h3 : gCo ((gEx false (σ.1 10) (gNp σ i) i (gNc σ i)).toInt + dx.toInt) ((gEx false (σ.1 12) (gNp σ i) i (gNc σ i)).toInt + dy.toInt) ∧ gCo ((gEx true (σ.1 10) (gNp σ i) i (gNc σ i)).toInt + dx.toInt) ((gEx true (σ.1 12) (gNp σ i) i (gNc σ i)).toInt + dy.toInt)
      · rw [if_pos (Or.inr h3)]
        refine go_aload_n (q := 1) (gDec iX10_shift_ok 0 rfl) rfl rfl rfl ?_
        refine go_iload_n (q := 2) (gDec iX10_shift_ok 1 rfl) rfl rfl rfl ?_
        refine go_callV (n2 := 0) (q := 5) kX10_96 (ctX10_rG hW hi) (gDec iX10_shift_ok 2 rfl) rfl rfl (by decide) rfl rfl rfl (Nat.le_of_ble_eq_true rfl) rfl (gFit_rm (by decide) (by decide)) rfl ?_
        refine go_aload_n (q := 6) (gDec iX10_shift_ok 3 rfl) rfl rfl rfl ?_
        refine go_getr (r' := 1) (q := 9) fX10_10 (gDec iX10_shift_ok 4 rfl) rfl (by decide) rfl ?_
        refine go_getr (r' := 2) (q := 12) fX10_70 (gDec iX10_shift_ok 5 rfl) rfl (by decide) rfl ?_
        refine go_astore (q := 14) (gDec iX10_shift_ok 6 rfl) (by decide) rfl ?_
        refine go_aload (q := 16) (gDec iX10_shift_ok 7 rfl) rfl rfl ?_
        refine go_iload_n (q := 17) (gDec iX10_shift_ok 8 rfl) rfl rfl rfl ?_
        refine go_callV (n2 := 0) (q := 20) kX10_106 (ctX5_contourCount (g := i) (by omega)) (gDec iX10_shift_ok 9 rfl) rfl rfl (by decide) rfl rfl rfl (Nat.le_of_ble_eq_true rfl) rfl (gFit_rm (by decide) (by decide)) rfl ?_
        refine go_top (v' := nI (gNc σ i)) (hW.nc (by omega)) ?_
        refine go_if_le (t := 73) (q := 23) (gDec iX10_shift_ok 10 rfl) (by decide) rfl (fun c20 => False.elim (nI_nle (n := gNc σ i) (by omega) (by omega) c20)) (fun c20 => ?_)
        refine go_aload (q := 25) (gDec iX10_shift_ok 11 rfl) rfl rfl ?_
        refine go_iload_n (q := 26) (gDec iX10_shift_ok 12 rfl) rfl rfl rfl ?_
        refine go_iconst (v := 0) (q := 27) (gDec iX10_shift_ok 13 rfl) (by decide) rfl ?_
        refine go_callV (n2 := 0) (q := 30) kX10_130 (ctX5_leastx (g := i) (N := gNc σ i) (pm := gNp σ i) (by omega) (hW.nc3 (by omega)) (hW.nc (by omega)) (hW.pm (by omega))) (gDec iX10_shift_ok 14 rfl) rfl rfl (by decide) rfl rfl rfl (Nat.le_of_ble_eq_true rfl) rfl (gFit_rm (by decide) (by decide)) rfl ?_
        refine go_i2l (q := 31) (gDec iX10_shift_ok 15 rfl) rfl ?_
        refine go_iload_n (q := 32) (gDec iX10_shift_ok 16 rfl) rfl rfl rfl ?_
        refine go_i2l (q := 33) (gDec iX10_shift_ok 17 rfl) rfl ?_
        refine go_ladd (q := 34) (gDec iX10_shift_ok 18 rfl) rfl ?_
        refine go_aload (q := 36) (gDec iX10_shift_ok 19 rfl) rfl rfl ?_
        refine go_iload_n (q := 37) (gDec iX10_shift_ok 20 rfl) rfl rfl rfl ?_
        refine go_iconst (v := 1) (q := 38) (gDec iX10_shift_ok 21 rfl) (by decide) rfl ?_
        refine go_callV (n2 := 0) (q := 41) kX10_130 (ctX5_leasty (g := i) (N := gNc σ i) (pm := gNp σ i) (by omega) (hW.nc3 (by omega)) (hW.nc (by omega)) (hW.pm (by omega))) (gDec iX10_shift_ok 22 rfl) rfl rfl (by decide) rfl rfl rfl (Nat.le_of_ble_eq_true rfl) rfl (gFit_rm (by decide) (by decide)) rfl ?_
        refine go_i2l (q := 42) (gDec iX10_shift_ok 23 rfl) rfl ?_
        refine go_iload_n (q := 43) (gDec iX10_shift_ok 24 rfl) rfl rfl rfl ?_
        refine go_i2l (q := 44) (gDec iX10_shift_ok 25 rfl) rfl ?_
        refine go_ladd (q := 45) (gDec iX10_shift_ok 26 rfl) rfl ?_
        refine go_callS (n2 := 0) (q := 48) kX10_102 (ctX10_requireCoordinates (x := (gEx false (σ.1 10) (gNp σ i) i (gNc σ i)).toInt64 + dx.toInt64) (y := (gEx false (σ.1 12) (gNp σ i) i (gNc σ i)).toInt64 + dy.toInt64) (by rw [l_add, l_add]; exact h3.1)) (gDec iX10_shift_ok 27 rfl) rfl rfl (Nat.le_of_ble_eq_true rfl) rfl (gFit_rm (by decide) (by decide)) rfl ?_
        refine go_aload (q := 50) (gDec iX10_shift_ok 28 rfl) rfl rfl ?_
        refine go_iload_n (q := 51) (gDec iX10_shift_ok 29 rfl) rfl rfl rfl ?_
        refine go_iconst (v := 0) (q := 52) (gDec iX10_shift_ok 30 rfl) (by decide) rfl ?_
        refine go_callV (n2 := 0) (q := 55) kX10_134 (ctX5_greatestx (g := i) (N := gNc σ i) (pm := gNp σ i) (by omega) (hW.nc3 (by omega)) (hW.nc (by omega)) (hW.pm (by omega))) (gDec iX10_shift_ok 31 rfl) rfl rfl (by decide) rfl rfl rfl (Nat.le_of_ble_eq_true rfl) rfl (gFit_rm (by decide) (by decide)) rfl ?_
        refine go_i2l (q := 56) (gDec iX10_shift_ok 32 rfl) rfl ?_
        refine go_iload_n (q := 57) (gDec iX10_shift_ok 33 rfl) rfl rfl rfl ?_
        refine go_i2l (q := 58) (gDec iX10_shift_ok 34 rfl) rfl ?_
        refine go_ladd (q := 59) (gDec iX10_shift_ok 35 rfl) rfl ?_
        refine go_aload (q := 61) (gDec iX10_shift_ok 36 rfl) rfl rfl ?_
        refine go_iload_n (q := 62) (gDec iX10_shift_ok 37 rfl) rfl rfl rfl ?_
        refine go_iconst (v := 1) (q := 63) (gDec iX10_shift_ok 38 rfl) (by decide) rfl ?_
        refine go_callV (n2 := 0) (q := 66) kX10_134 (ctX5_greatesty (g := i) (N := gNc σ i) (pm := gNp σ i) (by omega) (hW.nc3 (by omega)) (hW.nc (by omega)) (hW.pm (by omega))) (gDec iX10_shift_ok 39 rfl) rfl rfl (by decide) rfl rfl rfl (Nat.le_of_ble_eq_true rfl) rfl (gFit_rm (by decide) (by decide)) rfl ?_
        refine go_i2l (q := 67) (gDec iX10_shift_ok 40 rfl) rfl ?_
        refine go_iload_n (q := 68) (gDec iX10_shift_ok 41 rfl) rfl rfl rfl ?_
        refine go_i2l (q := 69) (gDec iX10_shift_ok 42 rfl) rfl ?_
        refine go_ladd (q := 70) (gDec iX10_shift_ok 43 rfl) rfl ?_
        refine go_callS (n2 := 0) (q := 73) kX10_102 (ctX10_requireCoordinates (x := (gEx true (σ.1 10) (gNp σ i) i (gNc σ i)).toInt64 + dx.toInt64) (y := (gEx true (σ.1 12) (gNp σ i) i (gNc σ i)).toInt64 + dy.toInt64) (by rw [l_add, l_add]; exact h3.2)) (gDec iX10_shift_ok 44 rfl) rfl rfl (Nat.le_of_ble_eq_true rfl) rfl (gFit_rm (by decide) (by decide)) rfl ?_
        refine go_aload_n (q := 74) (gDec iX10_shift_ok 45 rfl) rfl rfl rfl ?_
        refine go_getr (r' := 71) (q := 77) fX10_22 (gDec iX10_shift_ok 46 rfl) rfl (by decide) rfl ?_
        refine go_aload_n (q := 78) (gDec iX10_shift_ok 47 rfl) rfl rfl rfl ?_
        refine go_getr (r' := 1) (q := 81) fX10_10 (gDec iX10_shift_ok 48 rfl) rfl (by decide) rfl ?_
        refine go_callV (n2 := 0) (q := 84) kX10_89 (ctX3_rem hH) (gDec iX10_shift_ok 49 rfl) rfl rfl (by decide) rfl rfl rfl (Nat.le_of_ble_eq_true rfl) rfl (gFit_rm (by decide) (by decide)) rfl ?_
        refine go_aload (q := 86) (gDec iX10_shift_ok 50 rfl) rfl rfl ?_
        refine go_iload_n (q := 87) (gDec iX10_shift_ok 51 rfl) rfl rfl rfl ?_
        refine go_iload_n (q := 88) (gDec iX10_shift_ok 52 rfl) rfl rfl rfl ?_
        refine go_iload_n (q := 89) (gDec iX10_shift_ok 53 rfl) rfl rfl rfl ?_
        refine go_callV (n2 := 0) (q := 92) kX10_137 (ctX5_moveAll (g := i) (N := gNc σ i) (pm := gNp σ i) (by omega) (hW.nc3 (by omega)) ((congrFun ((gRem_D σ) 6 (by decide)) i).trans (hW.nc (by omega))) (fun c hc => ⟨(congrFun ((gRem_D σ) 8 (by decide)) _).trans (hW.pm (by omega) c hc).1, (hW.pm (by omega) c hc).2⟩)) (gDec iX10_shift_ok 54 rfl) rfl rfl (by decide) rfl rfl rfl (Nat.le_of_ble_eq_true rfl) rfl (gFit_rm (by decide) (by decide)) rfl ?_
        refine go_w (show _ = gShW σ i dx dy from rfl) ?_
        refine go_aload (q := 94) (gDec iX10_shift_ok 55 rfl) rfl rfl ?_
        refine go_iload_n (q := 95) (gDec iX10_shift_ok 56 rfl) rfl rfl rfl ?_
        refine go_iconst (v := 0) (q := 96) (gDec iX10_shift_ok 57 rfl) (by decide) rfl ?_
        refine go_callV (n2 := 0) (q := 99) kX10_130 (ctX5_leastx (g := i) (N := gNc σ i) (pm := gNp σ i) (by omega) (hW.nc3 (by omega)) ((congrFun hM.2 i).trans (hW.nc (by omega))) (fun c hc => ⟨(congrFun hM.1 _).trans (hW.pm (by omega) c hc).1, (hW.pm (by omega) c hc).2⟩)) (gDec iX10_shift_ok 58 rfl) rfl rfl (by decide) rfl rfl rfl (Nat.le_of_ble_eq_true rfl) rfl (gFit_rm (by decide) (by decide)) rfl ?_
        exact go_ireturn (gDec iX10_shift_ok 59 rfl) rfl rfl rfl rfl (by decide)
      · rw [if_neg (fun h9 => h9.elim h4 h3)]
        by_cases h5 : gCo ((gEx false (σ.1 10) (gNp σ i) i (gNc σ i)).toInt + dx.toInt) ((gEx false (σ.1 12) (gNp σ i) i (gNc σ i)).toInt + dy.toInt)
        · have h6 : ¬ gCo ((gEx true (σ.1 10) (gNp σ i) i (gNc σ i)).toInt + dx.toInt) ((gEx true (σ.1 12) (gNp σ i) i (gNc σ i)).toInt + dy.toInt) := fun h9 => h3 ⟨h5, h9⟩
          refine go_aload_n (q := 1) (gDec iX10_shift_ok 0 rfl) rfl rfl rfl ?_
          refine go_iload_n (q := 2) (gDec iX10_shift_ok 1 rfl) rfl rfl rfl ?_
          refine go_callV (n2 := 0) (q := 5) kX10_96 (ctX10_rG hW hi) (gDec iX10_shift_ok 2 rfl) rfl rfl (by decide) rfl rfl rfl (Nat.le_of_ble_eq_true rfl) rfl (gFit_rm (by decide) (by decide)) rfl ?_
          refine go_aload_n (q := 6) (gDec iX10_shift_ok 3 rfl) rfl rfl rfl ?_
          refine go_getr (r' := 1) (q := 9) fX10_10 (gDec iX10_shift_ok 4 rfl) rfl (by decide) rfl ?_
          refine go_getr (r' := 2) (q := 12) fX10_70 (gDec iX10_shift_ok 5 rfl) rfl (by decide) rfl ?_
          refine go_astore (q := 14) (gDec iX10_shift_ok 6 rfl) (by decide) rfl ?_
          refine go_aload (q := 16) (gDec iX10_shift_ok 7 rfl) rfl rfl ?_
          refine go_iload_n (q := 17) (gDec iX10_shift_ok 8 rfl) rfl rfl rfl ?_
          refine go_callV (n2 := 0) (q := 20) kX10_106 (ctX5_contourCount (g := i) (by omega)) (gDec iX10_shift_ok 9 rfl) rfl rfl (by decide) rfl rfl rfl (Nat.le_of_ble_eq_true rfl) rfl (gFit_rm (by decide) (by decide)) rfl ?_
          refine go_top (v' := nI (gNc σ i)) (hW.nc (by omega)) ?_
          refine go_if_le (t := 73) (q := 23) (gDec iX10_shift_ok 10 rfl) (by decide) rfl (fun c20 => False.elim (nI_nle (n := gNc σ i) (by omega) (by omega) c20)) (fun c20 => ?_)
          refine go_aload (q := 25) (gDec iX10_shift_ok 11 rfl) rfl rfl ?_
          refine go_iload_n (q := 26) (gDec iX10_shift_ok 12 rfl) rfl rfl rfl ?_
          refine go_iconst (v := 0) (q := 27) (gDec iX10_shift_ok 13 rfl) (by decide) rfl ?_
          refine go_callV (n2 := 0) (q := 30) kX10_130 (ctX5_leastx (g := i) (N := gNc σ i) (pm := gNp σ i) (by omega) (hW.nc3 (by omega)) (hW.nc (by omega)) (hW.pm (by omega))) (gDec iX10_shift_ok 14 rfl) rfl rfl (by decide) rfl rfl rfl (Nat.le_of_ble_eq_true rfl) rfl (gFit_rm (by decide) (by decide)) rfl ?_
          refine go_i2l (q := 31) (gDec iX10_shift_ok 15 rfl) rfl ?_
          refine go_iload_n (q := 32) (gDec iX10_shift_ok 16 rfl) rfl rfl rfl ?_
          refine go_i2l (q := 33) (gDec iX10_shift_ok 17 rfl) rfl ?_
          refine go_ladd (q := 34) (gDec iX10_shift_ok 18 rfl) rfl ?_
          refine go_aload (q := 36) (gDec iX10_shift_ok 19 rfl) rfl rfl ?_
          refine go_iload_n (q := 37) (gDec iX10_shift_ok 20 rfl) rfl rfl rfl ?_
          refine go_iconst (v := 1) (q := 38) (gDec iX10_shift_ok 21 rfl) (by decide) rfl ?_
          refine go_callV (n2 := 0) (q := 41) kX10_130 (ctX5_leasty (g := i) (N := gNc σ i) (pm := gNp σ i) (by omega) (hW.nc3 (by omega)) (hW.nc (by omega)) (hW.pm (by omega))) (gDec iX10_shift_ok 22 rfl) rfl rfl (by decide) rfl rfl rfl (Nat.le_of_ble_eq_true rfl) rfl (gFit_rm (by decide) (by decide)) rfl ?_
          refine go_i2l (q := 42) (gDec iX10_shift_ok 23 rfl) rfl ?_
          refine go_iload_n (q := 43) (gDec iX10_shift_ok 24 rfl) rfl rfl rfl ?_
          refine go_i2l (q := 44) (gDec iX10_shift_ok 25 rfl) rfl ?_
          refine go_ladd (q := 45) (gDec iX10_shift_ok 26 rfl) rfl ?_
          refine go_callS (n2 := 0) (q := 48) kX10_102 (ctX10_requireCoordinates (x := (gEx false (σ.1 10) (gNp σ i) i (gNc σ i)).toInt64 + dx.toInt64) (y := (gEx false (σ.1 12) (gNp σ i) i (gNc σ i)).toInt64 + dy.toInt64) (by rw [l_add, l_add]; exact h5)) (gDec iX10_shift_ok 27 rfl) rfl rfl (Nat.le_of_ble_eq_true rfl) rfl (gFit_rm (by decide) (by decide)) rfl ?_
          refine go_aload (q := 50) (gDec iX10_shift_ok 28 rfl) rfl rfl ?_
          refine go_iload_n (q := 51) (gDec iX10_shift_ok 29 rfl) rfl rfl rfl ?_
          refine go_iconst (v := 0) (q := 52) (gDec iX10_shift_ok 30 rfl) (by decide) rfl ?_
          refine go_callV (n2 := 0) (q := 55) kX10_134 (ctX5_greatestx (g := i) (N := gNc σ i) (pm := gNp σ i) (by omega) (hW.nc3 (by omega)) (hW.nc (by omega)) (hW.pm (by omega))) (gDec iX10_shift_ok 31 rfl) rfl rfl (by decide) rfl rfl rfl (Nat.le_of_ble_eq_true rfl) rfl (gFit_rm (by decide) (by decide)) rfl ?_
          refine go_i2l (q := 56) (gDec iX10_shift_ok 32 rfl) rfl ?_
          refine go_iload_n (q := 57) (gDec iX10_shift_ok 33 rfl) rfl rfl rfl ?_
          refine go_i2l (q := 58) (gDec iX10_shift_ok 34 rfl) rfl ?_
          refine go_ladd (q := 59) (gDec iX10_shift_ok 35 rfl) rfl ?_
          refine go_aload (q := 61) (gDec iX10_shift_ok 36 rfl) rfl rfl ?_
          refine go_iload_n (q := 62) (gDec iX10_shift_ok 37 rfl) rfl rfl rfl ?_
          refine go_iconst (v := 1) (q := 63) (gDec iX10_shift_ok 38 rfl) (by decide) rfl ?_
          refine go_callV (n2 := 0) (q := 66) kX10_134 (ctX5_greatesty (g := i) (N := gNc σ i) (pm := gNp σ i) (by omega) (hW.nc3 (by omega)) (hW.nc (by omega)) (hW.pm (by omega))) (gDec iX10_shift_ok 39 rfl) rfl rfl (by decide) rfl rfl rfl (Nat.le_of_ble_eq_true rfl) rfl (gFit_rm (by decide) (by decide)) rfl ?_
          refine go_i2l (q := 67) (gDec iX10_shift_ok 40 rfl) rfl ?_
          refine go_iload_n (q := 68) (gDec iX10_shift_ok 41 rfl) rfl rfl rfl ?_
          refine go_i2l (q := 69) (gDec iX10_shift_ok 42 rfl) rfl ?_
          refine go_ladd (q := 70) (gDec iX10_shift_ok 43 rfl) rfl ?_
          exact go_callS_x kX10_102 (ctX10_requireCoordinates_x (x := (gEx true (σ.1 10) (gNp σ i) i (gNc σ i)).toInt64 + dx.toInt64) (y := (gEx true (σ.1 12) (gNp σ i) i (gNc σ i)).toInt64 + dy.toInt64) (by rw [l_add, l_add]; exact h6)) (gDec iX10_shift_ok 44 rfl) rfl rfl (Nat.le_of_ble_eq_true rfl) (gFit_rm (by decide) (by decide)) rfl
        · skip
          refine go_aload_n (q := 1) (gDec iX10_shift_ok 0 rfl) rfl rfl rfl ?_
          refine go_iload_n (q := 2) (gDec iX10_shift_ok 1 rfl) rfl rfl rfl ?_
          refine go_callV (n2 := 0) (q := 5) kX10_96 (ctX10_rG hW hi) (gDec iX10_shift_ok 2 rfl) rfl rfl (by decide) rfl rfl rfl (Nat.le_of_ble_eq_true rfl) rfl (gFit_rm (by decide) (by decide)) rfl ?_
          refine go_aload_n (q := 6) (gDec iX10_shift_ok 3 rfl) rfl rfl rfl ?_
          refine go_getr (r' := 1) (q := 9) fX10_10 (gDec iX10_shift_ok 4 rfl) rfl (by decide) rfl ?_
          refine go_getr (r' := 2) (q := 12) fX10_70 (gDec iX10_shift_ok 5 rfl) rfl (by decide) rfl ?_
          refine go_astore (q := 14) (gDec iX10_shift_ok 6 rfl) (by decide) rfl ?_
          refine go_aload (q := 16) (gDec iX10_shift_ok 7 rfl) rfl rfl ?_
          refine go_iload_n (q := 17) (gDec iX10_shift_ok 8 rfl) rfl rfl rfl ?_
          refine go_callV (n2 := 0) (q := 20) kX10_106 (ctX5_contourCount (g := i) (by omega)) (gDec iX10_shift_ok 9 rfl) rfl rfl (by decide) rfl rfl rfl (Nat.le_of_ble_eq_true rfl) rfl (gFit_rm (by decide) (by decide)) rfl ?_
          refine go_top (v' := nI (gNc σ i)) (hW.nc (by omega)) ?_
          refine go_if_le (t := 73) (q := 23) (gDec iX10_shift_ok 10 rfl) (by decide) rfl (fun c20 => False.elim (nI_nle (n := gNc σ i) (by omega) (by omega) c20)) (fun c20 => ?_)
          refine go_aload (q := 25) (gDec iX10_shift_ok 11 rfl) rfl rfl ?_
          refine go_iload_n (q := 26) (gDec iX10_shift_ok 12 rfl) rfl rfl rfl ?_
          refine go_iconst (v := 0) (q := 27) (gDec iX10_shift_ok 13 rfl) (by decide) rfl ?_
          refine go_callV (n2 := 0) (q := 30) kX10_130 (ctX5_leastx (g := i) (N := gNc σ i) (pm := gNp σ i) (by omega) (hW.nc3 (by omega)) (hW.nc (by omega)) (hW.pm (by omega))) (gDec iX10_shift_ok 14 rfl) rfl rfl (by decide) rfl rfl rfl (Nat.le_of_ble_eq_true rfl) rfl (gFit_rm (by decide) (by decide)) rfl ?_
          refine go_i2l (q := 31) (gDec iX10_shift_ok 15 rfl) rfl ?_
          refine go_iload_n (q := 32) (gDec iX10_shift_ok 16 rfl) rfl rfl rfl ?_
          refine go_i2l (q := 33) (gDec iX10_shift_ok 17 rfl) rfl ?_
          refine go_ladd (q := 34) (gDec iX10_shift_ok 18 rfl) rfl ?_
          refine go_aload (q := 36) (gDec iX10_shift_ok 19 rfl) rfl rfl ?_
          refine go_iload_n (q := 37) (gDec iX10_shift_ok 20 rfl) rfl rfl rfl ?_
          refine go_iconst (v := 1) (q := 38) (gDec iX10_shift_ok 21 rfl) (by decide) rfl ?_
          refine go_callV (n2 := 0) (q := 41) kX10_130 (ctX5_leasty (g := i) (N := gNc σ i) (pm := gNp σ i) (by omega) (hW.nc3 (by omega)) (hW.nc (by omega)) (hW.pm (by omega))) (gDec iX10_shift_ok 22 rfl) rfl rfl (by decide) rfl rfl rfl (Nat.le_of_ble_eq_true rfl) rfl (gFit_rm (by decide) (by decide)) rfl ?_
          refine go_i2l (q := 42) (gDec iX10_shift_ok 23 rfl) rfl ?_
          refine go_iload_n (q := 43) (gDec iX10_shift_ok 24 rfl) rfl rfl rfl ?_
          refine go_i2l (q := 44) (gDec iX10_shift_ok 25 rfl) rfl ?_
          refine go_ladd (q := 45) (gDec iX10_shift_ok 26 rfl) rfl ?_
          exact go_callS_x kX10_102 (ctX10_requireCoordinates_x (x := (gEx false (σ.1 10) (gNp σ i) i (gNc σ i)).toInt64 + dx.toInt64) (y := (gEx false (σ.1 12) (gNp σ i) i (gNc σ i)).toInt64 + dy.toInt64) (by rw [l_add, l_add]; exact h5)) (gDec iX10_shift_ok 27 rfl) rfl rfl (Nat.le_of_ble_eq_true rfl) (gFit_rm (by decide) (by decide)) rfl
  · rw [show fShift σ g dx dy = (xIOB, σ) from if_neg h1]
    refine go_aload_n (q := 1) (gDec iX10_shift_ok 0 rfl) rfl rfl rfl ?_
    refine go_iload_n (q := 2) (gDec iX10_shift_ok 1 rfl) rfl rfl rfl ?_
    exact go_callV_x kX10_96 (ctX10_requireGlyph_x hW h1) (gDec iX10_shift_ok 2 rfl) rfl rfl (by decide) rfl rfl rfl (Nat.le_of_ble_eq_true rfl) (gFit_rm (by decide) (by decide)) rfl
