/-- the number of an answer; the place of an exception in a method's list -/
def aI (o : gO) : Int32 := match o with
  | .inl (some (.int x)) => x
  | _ => 0
def xN : List String → Int32 → String → Int32
  | [], _, _ => 0
  | h :: t, k, E => if h = E then k else xN t (k + 1) E
def xC (l : List String) (o : gO) : Int32 := match o with
  | .inl _ => 0
  | .inr E => xN l 1 E
abbrev kO : List String := ["java/lang/IndexOutOfBoundsException"]
abbrev kOA : List String := ["java/lang/IndexOutOfBoundsException", "java/lang/IllegalArgumentException"]
abbrev kOAS : List String := ["java/lang/IndexOutOfBoundsException", "java/lang/IllegalArgumentException", "java/lang/IllegalStateException"]
abbrev kOAU : List String := ["java/lang/IndexOutOfBoundsException", "java/lang/IllegalArgumentException", "java/lang/UnsupportedOperationException"]
abbrev kA : List String := ["java/lang/IllegalArgumentException"]
abbrev kAS : List String := ["java/lang/IllegalArgumentException", "java/lang/IllegalStateException"]
abbrev kS : List String := ["java/lang/IllegalStateException"]
abbrev kN : List String := ["java/util/NoSuchElementException"]
abbrev kAN : List String := ["java/lang/IllegalArgumentException", "java/util/NoSuchElementException"]
abbrev kR : List String := ["java/lang/ArithmeticException"]

theorem xc_O_O : xC kO xIOB = 1 := by decide +kernel
theorem xc_OA_O : xC kOA xIOB = 1 := by decide +kernel
theorem xc_OA_A : xC kOA xIAE = 2 := by decide +kernel
theorem xc_OAS_O : xC kOAS xIOB = 1 := by decide +kernel
theorem xc_OAS_A : xC kOAS xIAE = 2 := by decide +kernel
theorem xc_OAS_S : xC kOAS xISE = 3 := by decide +kernel
theorem xc_OAU_O : xC kOAU xIOB = 1 := by decide +kernel
theorem xc_OAU_A : xC kOAU xIAE = 2 := by decide +kernel
theorem xc_OAU_U : xC kOAU xUOE = 3 := by decide +kernel
theorem xc_A_A : xC kA xIAE = 1 := by decide +kernel
theorem xc_AS_A : xC kAS xIAE = 1 := by decide +kernel
theorem xc_AS_S : xC kAS xISE = 2 := by decide +kernel
theorem xc_S_S : xC kS xISE = 1 := by decide +kernel
theorem xc_N_N : xC kN xNSE = 1 := by decide +kernel
theorem xc_AN_A : xC kAN xIAE = 1 := by decide +kernel
theorem xc_AN_N : xC kAN xNSE = 2 := by decide +kernel
theorem xc_R_R : xC kR xARI = 1 := by decide +kernel
theorem gMRt {τ σ : gST} {v : Int32} (h : gMR τ (σ.1 377)) : gMR τ ((gPut σ 376 5 v).1 377) := h
theorem nI0 : nI 0 = 0 := by decide

set_option maxHeartbeats 4000000 in
set_option maxRecDepth 100000 in
theorem ctX11_points {κ : gK} {σ τ : gST} {g c : Int32} (hC : gCI τ) (hM : gMR τ (σ.1 377)) : gCt κ mX11_points 9 [.ref (κ.2.1 + 376), .int g, .int c] σ (rI (aI (fPoints τ g c).1)) (gPut σ 376 5 (xC kO (fPoints τ g c).1)) 0 := by
  have hW := hC.dw
  have h24 := hW.ng24
  refine ct_of (by decide +kernel) rfl (Nat.le_of_ble_eq_true rfl) rfl ?_
  by_cases h1 : gInC τ g c
  · have hs : fPoints τ g c = _ := if_pos h1
    rw [hs]
    obtain ⟨i, j, hi, hj, rfl, rfl⟩ := gInC.ex hW h1
    have h3 := hW.nc3 (g := i) (by omega)
    rw [nA_nI (n := i) (by omega), nA_nI (n := j) (by omega)]
    refine go_aload_n (q := 1) (gDec iX11_points_ok 0 rfl) rfl rfl rfl ?_
    refine go_aload_n (q := 2) (gDec iX11_points_ok 1 rfl) rfl rfl rfl ?_
    refine go_iload_n (q := 3) (gDec iX11_points_ok 2 rfl) rfl rfl rfl ?_
    refine go_iload_n (q := 4) (gDec iX11_points_ok 3 rfl) rfl rfl rfl ?_
    refine go_callV (n2 := 0) (q := 7) kX11_72 (ctX11_isContour (τ := τ) hW hM) (gDec iX11_points_ok 4 rfl) rfl rfl (by decide) rfl rfl rfl (Nat.le_of_ble_eq_true rfl) rfl (gFit_rm (by decide) (by decide)) rfl ?_
    refine go_top (v' := 1) (if_pos h1) ?_
    refine go_if_eq (t := 14) (q := 10) (gDec iX11_points_ok 5 rfl) (by decide) rfl (fun c7 => False.elim (absurd c7 (by decide))) (fun c7 => ?_)
    refine go_iconst (v := nI 0) (q := 11) (gDec iX11_points_ok 6 rfl) (by decide) rfl ?_
    refine go_goto (t := 15) (gDec iX11_points_ok 7 rfl) (by decide) ?_
    refine go_puti (q := 18) fX11_54 gft11 (gDec iX11_points_ok 9 rfl) rfl (by decide) rfl rfl rfl rfl ?_
    refine go_aload_n (q := 19) (gDec iX11_points_ok 10 rfl) rfl rfl rfl ?_
    refine go_geti (q := 22) fX11_54 (gDec iX11_points_ok 11 rfl) rfl (by decide) rfl ?_
    refine go_top (v' := nI 0) rfl ?_
    refine go_if_le (t := 29) (q := 25) (gDec iX11_points_ok 12 rfl) (by decide) rfl (fun c22 => ?_) (fun c22 => False.elim (c22 (by decide)))
    refine go_aload_n (q := 30) (gDec iX11_points_ok 15 rfl) rfl rfl rfl ?_
    refine go_iload_n (q := 31) (gDec iX11_points_ok 16 rfl) rfl rfl rfl ?_
    refine go_iconst (v := nI 2) (q := 32) (gDec iX11_points_ok 17 rfl) (by decide) rfl ?_
    refine go_iload_n (q := 33) (gDec iX11_points_ok 18 rfl) rfl rfl rfl ?_
    refine go_iaddN (c := 2 + j) (q := 34) (gDec iX11_points_ok 19 rfl) rfl rfl ?_
    refine go_callV (n2 := 0) (q := 37) kX11_69 (ctX11_of (g := i) (w := 2 + j) (by omega)) (gDec iX11_points_ok 20 rfl) rfl rfl (by decide) rfl rfl rfl (Nat.le_of_ble_eq_true rfl) rfl (gFit_rm (by decide) (by decide)) rfl ?_
    refine go_top (v' := τ.1 8 (i * 3 + j)) ((gMRt hM).np0 hi hj rfl) ?_
    exact go_ireturn (gDec iX11_points_ok 21 rfl) rfl rfl rfl rfl (by decide)
  · rw [show fPoints τ g c = _ from if_neg h1]
    refine go_aload_n (q := 1) (gDec iX11_points_ok 0 rfl) rfl rfl rfl ?_
    refine go_aload_n (q := 2) (gDec iX11_points_ok 1 rfl) rfl rfl rfl ?_
    refine go_iload_n (q := 3) (gDec iX11_points_ok 2 rfl) rfl rfl rfl ?_
    refine go_iload_n (q := 4) (gDec iX11_points_ok 3 rfl) rfl rfl rfl ?_
    refine go_callV (n2 := 0) (q := 7) kX11_72 (ctX11_isContour (τ := τ) hW hM) (gDec iX11_points_ok 4 rfl) rfl rfl (by decide) rfl rfl rfl (Nat.le_of_ble_eq_true rfl) rfl (gFit_rm (by decide) (by decide)) rfl ?_
    refine go_top (v' := 0) (if_neg h1) ?_
    refine go_if_eq (t := 14) (q := 10) (gDec iX11_points_ok 5 rfl) (by decide) rfl (fun c7 => ?_) (fun c7 => False.elim (c7 rfl))
    refine go_iconst (v := nI 1) (q := 15) (gDec iX11_points_ok 8 rfl) (by decide) rfl ?_
    refine go_puti (q := 18) fX11_54 gft11 (gDec iX11_points_ok 9 rfl) rfl (by decide) rfl rfl rfl rfl ?_
    refine go_aload_n (q := 19) (gDec iX11_points_ok 10 rfl) rfl rfl rfl ?_
    refine go_geti (q := 22) fX11_54 (gDec iX11_points_ok 11 rfl) rfl (by decide) rfl ?_
    refine go_top (v' := nI 1) rfl ?_
    refine go_if_le (t := 29) (q := 25) (gDec iX11_points_ok 12 rfl) (by decide) rfl (fun c22 => False.elim (absurd c22 (by decide))) (fun c22 => ?_)
    refine go_iconst (v := nI 0) (q := 26) (gDec iX11_points_ok 13 rfl) (by decide) rfl ?_
    refine go_goto (t := 37) (gDec iX11_points_ok 14 rfl) (by decide) ?_
    exact go_ireturn (gDec iX11_points_ok 21 rfl) rfl rfl rfl (congrArg (gPut σ 376 5) xc_O_O) (by decide)

set_option maxHeartbeats 4000000 in
set_option maxRecDepth 100000 in
theorem ctX11_area {κ : gK} {σ τ : gST} {g c : Int32} (hC : gCI τ) (hM : gMR τ (σ.1 377)) : gCt κ mX11_area 9 [.ref (κ.2.1 + 376), .int g, .int c] σ (rI (aI (fArea τ g c).1)) (gPut σ 376 5 (xC kO (fArea τ g c).1)) 0 := by
  have hW := hC.dw
  have h24 := hW.ng24
  refine ct_of (by decide +kernel) rfl (Nat.le_of_ble_eq_true rfl) rfl ?_
  by_cases h1 : gInC τ g c
  · have hs : fArea τ g c = _ := if_pos h1
    rw [hs]
    obtain ⟨i, j, hi, hj, rfl, rfl⟩ := gInC.ex hW h1
    have h3 := hW.nc3 (g := i) (by omega)
    rw [nA_nI (n := i) (by omega), nA_nI (n := j) (by omega)]
    refine go_aload_n (q := 1) (gDec iX11_area_ok 0 rfl) rfl rfl rfl ?_
    refine go_aload_n (q := 2) (gDec iX11_area_ok 1 rfl) rfl rfl rfl ?_
    refine go_iload_n (q := 3) (gDec iX11_area_ok 2 rfl) rfl rfl rfl ?_
    refine go_iload_n (q := 4) (gDec iX11_area_ok 3 rfl) rfl rfl rfl ?_
    refine go_callV (n2 := 0) (q := 7) kX11_72 (ctX11_isContour (τ := τ) hW hM) (gDec iX11_area_ok 4 rfl) rfl rfl (by decide) rfl rfl rfl (Nat.le_of_ble_eq_true rfl) rfl (gFit_rm (by decide) (by decide)) rfl ?_
    refine go_top (v' := 1) (if_pos h1) ?_
    refine go_if_eq (t := 14) (q := 10) (gDec iX11_area_ok 5 rfl) (by decide) rfl (fun c7 => False.elim (absurd c7 (by decide))) (fun c7 => ?_)
    refine go_iconst (v := nI 0) (q := 11) (gDec iX11_area_ok 6 rfl) (by decide) rfl ?_
    refine go_goto (t := 15) (gDec iX11_area_ok 7 rfl) (by decide) ?_
    refine go_puti (q := 18) fX11_54 gft11 (gDec iX11_area_ok 9 rfl) rfl (by decide) rfl rfl rfl rfl ?_
    refine go_aload_n (q := 19) (gDec iX11_area_ok 10 rfl) rfl rfl rfl ?_
    refine go_geti (q := 22) fX11_54 (gDec iX11_area_ok 11 rfl) rfl (by decide) rfl ?_
    refine go_top (v' := nI 0) rfl ?_
    refine go_if_le (t := 29) (q := 25) (gDec iX11_area_ok 12 rfl) (by decide) rfl (fun c22 => ?_) (fun c22 => False.elim (c22 (by decide)))
    refine go_aload_n (q := 30) (gDec iX11_area_ok 15 rfl) rfl rfl rfl ?_
    refine go_iload_n (q := 31) (gDec iX11_area_ok 16 rfl) rfl rfl rfl ?_
    refine go_iload_n (q := 32) (gDec iX11_area_ok 17 rfl) rfl rfl rfl ?_
    refine go_callV (n2 := 0) (q := 35) kX11_123 (ctX11_areaOf (τ := τ) hW (gMRt hM) hi hj) (gDec iX11_area_ok 18 rfl) rfl rfl (by decide) rfl rfl rfl (Nat.le_of_ble_eq_true rfl) rfl (gFit_rm (by decide) (by decide)) rfl ?_
    exact go_ireturn (gDec iX11_area_ok 19 rfl) rfl rfl rfl rfl (by decide)
  · rw [show fArea τ g c = _ from if_neg h1]
    refine go_aload_n (q := 1) (gDec iX11_area_ok 0 rfl) rfl rfl rfl ?_
    refine go_aload_n (q := 2) (gDec iX11_area_ok 1 rfl) rfl rfl rfl ?_
    refine go_iload_n (q := 3) (gDec iX11_area_ok 2 rfl) rfl rfl rfl ?_
    refine go_iload_n (q := 4) (gDec iX11_area_ok 3 rfl) rfl rfl rfl ?_
    refine go_callV (n2 := 0) (q := 7) kX11_72 (ctX11_isContour (τ := τ) hW hM) (gDec iX11_area_ok 4 rfl) rfl rfl (by decide) rfl rfl rfl (Nat.le_of_ble_eq_true rfl) rfl (gFit_rm (by decide) (by decide)) rfl ?_
    refine go_top (v' := 0) (if_neg h1) ?_
    refine go_if_eq (t := 14) (q := 10) (gDec iX11_area_ok 5 rfl) (by decide) rfl (fun c7 => ?_) (fun c7 => False.elim (c7 rfl))
    refine go_iconst (v := nI 1) (q := 15) (gDec iX11_area_ok 8 rfl) (by decide) rfl ?_
    refine go_puti (q := 18) fX11_54 gft11 (gDec iX11_area_ok 9 rfl) rfl (by decide) rfl rfl rfl rfl ?_
    refine go_aload_n (q := 19) (gDec iX11_area_ok 10 rfl) rfl rfl rfl ?_
    refine go_geti (q := 22) fX11_54 (gDec iX11_area_ok 11 rfl) rfl (by decide) rfl ?_
    refine go_top (v' := nI 1) rfl ?_
    refine go_if_le (t := 29) (q := 25) (gDec iX11_area_ok 12 rfl) (by decide) rfl (fun c22 => False.elim (absurd c22 (by decide))) (fun c22 => ?_)
    refine go_iconst (v := nI 0) (q := 26) (gDec iX11_area_ok 13 rfl) (by decide) rfl ?_
    refine go_goto (t := 35) (gDec iX11_area_ok 14 rfl) (by decide) ?_
    exact go_ireturn (gDec iX11_area_ok 19 rfl) rfl rfl rfl (congrArg (gPut σ 376 5) xc_O_O) (by decide)

set_option maxHeartbeats 4000000 in
set_option maxRecDepth 100000 in
theorem ctX11_point {κ : gK} {σ τ : gST} {g c p y : Int32} (hC : gCI τ) (hM : gMR τ (σ.1 377)) : gCt κ mX11_point 9 [.ref (κ.2.1 + 376), .int g, .int c, .int p, .int y] σ (rI (aI (fPoint τ g c p y).1)) (gPut σ 376 5 (xC kO (fPoint τ g c p y).1)) 0 := by
  have hW := hC.dw
  have h24 := hW.ng24
  refine ct_of (by decide +kernel) rfl (Nat.le_of_ble_eq_true rfl) rfl ?_
  by_cases h1 : gInP τ g c p
  · have hs : fPoint τ g c p y = _ := if_pos h1
    rw [hs]
    obtain ⟨i, j, q, hi, hj, hq, rfl, rfl, rfl⟩ := gInP.ex hW h1
    have h3 := hW.nc3 (g := i) (by omega)
    have h12 := hW.np12 (g := i) (c := j) (by omega) (by omega)
    rw [nA_nI (n := i) (by omega), nA_nI (n := j) (by omega), nA_nI (n := q) (by omega)]
    by_cases h2 : y = 0
    · rw [if_pos h2]
      refine go_aload_n (q := 1) (gDec iX11_point_ok 0 rfl) rfl rfl rfl ?_
      refine go_aload_n (q := 2) (gDec iX11_point_ok 1 rfl) rfl rfl rfl ?_
      refine go_iload_n (q := 3) (gDec iX11_point_ok 2 rfl) rfl rfl rfl ?_
      refine go_iload_n (q := 4) (gDec iX11_point_ok 3 rfl) rfl rfl rfl ?_
      refine go_iload_n (q := 5) (gDec iX11_point_ok 4 rfl) rfl rfl rfl ?_
      refine go_callV (n2 := 0) (q := 8) kX11_107 (ctX11_isPoint (τ := τ) hW hM) (gDec iX11_point_ok 5 rfl) rfl rfl (by decide) rfl rfl rfl (Nat.le_of_ble_eq_true rfl) rfl (gFit_rm (by decide) (by decide)) rfl ?_
      refine go_top (v' := 1) (if_pos h1) ?_
      refine go_if_eq (t := 15) (q := 11) (gDec iX11_point_ok 6 rfl) (by decide) rfl (fun c8 => False.elim (absurd c8 (by decide))) (fun c8 => ?_)
      refine go_iconst (v := nI 0) (q := 12) (gDec iX11_point_ok 7 rfl) (by decide) rfl ?_
      refine go_goto (t := 16) (gDec iX11_point_ok 8 rfl) (by decide) ?_
      refine go_puti (q := 19) fX11_54 gft11 (gDec iX11_point_ok 10 rfl) rfl (by decide) rfl rfl rfl rfl ?_
      refine go_aload_n (q := 20) (gDec iX11_point_ok 11 rfl) rfl rfl rfl ?_
      refine go_geti (q := 23) fX11_54 (gDec iX11_point_ok 12 rfl) rfl (by decide) rfl ?_
      refine go_top (v' := nI 0) rfl ?_
      refine go_if_le (t := 30) (q := 26) (gDec iX11_point_ok 13 rfl) (by decide) rfl (fun c23 => ?_) (fun c23 => False.elim (c23 (by decide)))
      refine go_aload_n (q := 31) (gDec iX11_point_ok 16 rfl) rfl rfl rfl ?_
      refine go_getr (r' := 377) (q := 34) fX11_9 (gDec iX11_point_ok 17 rfl) rfl (by decide) rfl ?_
      refine go_iload_n (q := 35) (gDec iX11_point_ok 18 rfl) rfl rfl rfl ?_
      refine go_iload_n (q := 36) (gDec iX11_point_ok 19 rfl) rfl rfl rfl ?_
      refine go_iload_n (q := 37) (gDec iX11_point_ok 20 rfl) rfl rfl rfl ?_
      refine go_callS (n2 := 0) (q := 40) kX11_95 (ctX11_pointAt (g := i) (c := j) (p := q)) (gDec iX11_point_ok 21 rfl) rfl rfl (Nat.le_of_ble_eq_true rfl) rfl (gFit_rm (by decide) (by decide)) rfl ?_
      refine go_iload (q := 42) (gDec iX11_point_ok 22 rfl) rfl rfl ?_
      refine go_if_eq (t := 49) (q := 45) (gDec iX11_point_ok 23 rfl) (by decide) rfl (fun c42 => ?_) (fun c42 => False.elim (c42 h2))
      refine go_iconst (v := nI 0) (q := 50) (gDec iX11_point_ok 26 rfl) (by decide) rfl ?_
      refine go_iaddN (c := 196 + 96 * i + (5 + 2 * (12 * j + q)) + 0) (q := 51) (gDec iX11_point_ok 27 rfl) rfl rfl ?_
      refine go_ialdN (q := 52) (gDec iX11_point_ok 28 rfl) rfl (by decide) (by omega) (by decide) rfl ?_
      refine go_top (v' := τ.1 10 ((i * 3 + j) * 12 + q)) ((gMRt hM).px hi hj hq rfl) ?_
      exact go_ireturn (gDec iX11_point_ok 29 rfl) rfl rfl rfl rfl (by decide)
    · rw [if_neg h2]
      refine go_aload_n (q := 1) (gDec iX11_point_ok 0 rfl) rfl rfl rfl ?_
      refine go_aload_n (q := 2) (gDec iX11_point_ok 1 rfl) rfl rfl rfl ?_
      refine go_iload_n (q := 3) (gDec iX11_point_ok 2 rfl) rfl rfl rfl ?_
      refine go_iload_n (q := 4) (gDec iX11_point_ok 3 rfl) rfl rfl rfl ?_
      refine go_iload_n (q := 5) (gDec iX11_point_ok 4 rfl) rfl rfl rfl ?_
      refine go_callV (n2 := 0) (q := 8) kX11_107 (ctX11_isPoint (τ := τ) hW hM) (gDec iX11_point_ok 5 rfl) rfl rfl (by decide) rfl rfl rfl (Nat.le_of_ble_eq_true rfl) rfl (gFit_rm (by decide) (by decide)) rfl ?_
      refine go_top (v' := 1) (if_pos h1) ?_
      refine go_if_eq (t := 15) (q := 11) (gDec iX11_point_ok 6 rfl) (by decide) rfl (fun c8 => False.elim (absurd c8 (by decide))) (fun c8 => ?_)
      refine go_iconst (v := nI 0) (q := 12) (gDec iX11_point_ok 7 rfl) (by decide) rfl ?_
      refine go_goto (t := 16) (gDec iX11_point_ok 8 rfl) (by decide) ?_
      refine go_puti (q := 19) fX11_54 gft11 (gDec iX11_point_ok 10 rfl) rfl (by decide) rfl rfl rfl rfl ?_
      refine go_aload_n (q := 20) (gDec iX11_point_ok 11 rfl) rfl rfl rfl ?_
      refine go_geti (q := 23) fX11_54 (gDec iX11_point_ok 12 rfl) rfl (by decide) rfl ?_
      refine go_top (v' := nI 0) rfl ?_
      refine go_if_le (t := 30) (q := 26) (gDec iX11_point_ok 13 rfl) (by decide) rfl (fun c23 => ?_) (fun c23 => False.elim (c23 (by decide)))
      refine go_aload_n (q := 31) (gDec iX11_point_ok 16 rfl) rfl rfl rfl ?_
      refine go_getr (r' := 377) (q := 34) fX11_9 (gDec iX11_point_ok 17 rfl) rfl (by decide) rfl ?_
      refine go_iload_n (q := 35) (gDec iX11_point_ok 18 rfl) rfl rfl rfl ?_
      refine go_iload_n (q := 36) (gDec iX11_point_ok 19 rfl) rfl rfl rfl ?_
      refine go_iload_n (q := 37) (gDec iX11_point_ok 20 rfl) rfl rfl rfl ?_
      refine go_callS (n2 := 0) (q := 40) kX11_95 (ctX11_pointAt (g := i) (c := j) (p := q)) (gDec iX11_point_ok 21 rfl) rfl rfl (Nat.le_of_ble_eq_true rfl) rfl (gFit_rm (by decide) (by decide)) rfl ?_
      refine go_iload (q := 42) (gDec iX11_point_ok 22 rfl) rfl rfl ?_
      refine go_if_eq (t := 49) (q := 45) (gDec iX11_point_ok 23 rfl) (by decide) rfl (fun c42 => False.elim (h2 c42)) (fun c42 => ?_)
      refine go_iconst (v := nI 1) (q := 46) (gDec iX11_point_ok 24 rfl) (by decide) rfl ?_
      refine go_goto (t := 50) (gDec iX11_point_ok 25 rfl) (by decide) ?_
      refine go_iaddN (c := 196 + 96 * i + (5 + 2 * (12 * j + q)) + 1) (q := 51) (gDec iX11_point_ok 27 rfl) rfl rfl ?_
      refine go_ialdN (q := 52) (gDec iX11_point_ok 28 rfl) rfl (by decide) (by omega) (by decide) rfl ?_
      refine go_top (v' := τ.1 12 ((i * 3 + j) * 12 + q)) ((gMRt hM).py hi hj hq rfl) ?_
      exact go_ireturn (gDec iX11_point_ok 29 rfl) rfl rfl rfl rfl (by decide)
  · rw [show fPoint τ g c p y = _ from if_neg h1]
    refine go_aload_n (q := 1) (gDec iX11_point_ok 0 rfl) rfl rfl rfl ?_
    refine go_aload_n (q := 2) (gDec iX11_point_ok 1 rfl) rfl rfl rfl ?_
    refine go_iload_n (q := 3) (gDec iX11_point_ok 2 rfl) rfl rfl rfl ?_
    refine go_iload_n (q := 4) (gDec iX11_point_ok 3 rfl) rfl rfl rfl ?_
    refine go_iload_n (q := 5) (gDec iX11_point_ok 4 rfl) rfl rfl rfl ?_
    refine go_callV (n2 := 0) (q := 8) kX11_107 (ctX11_isPoint (τ := τ) hW hM) (gDec iX11_point_ok 5 rfl) rfl rfl (by decide) rfl rfl rfl (Nat.le_of_ble_eq_true rfl) rfl (gFit_rm (by decide) (by decide)) rfl ?_
    refine go_top (v' := 0) (if_neg h1) ?_
    refine go_if_eq (t := 15) (q := 11) (gDec iX11_point_ok 6 rfl) (by decide) rfl (fun c8 => ?_) (fun c8 => False.elim (c8 rfl))
    refine go_iconst (v := nI 1) (q := 16) (gDec iX11_point_ok 9 rfl) (by decide) rfl ?_
    refine go_puti (q := 19) fX11_54 gft11 (gDec iX11_point_ok 10 rfl) rfl (by decide) rfl rfl rfl rfl ?_
    refine go_aload_n (q := 20) (gDec iX11_point_ok 11 rfl) rfl rfl rfl ?_
    refine go_geti (q := 23) fX11_54 (gDec iX11_point_ok 12 rfl) rfl (by decide) rfl ?_
    refine go_top (v' := nI 1) rfl ?_
    refine go_if_le (t := 30) (q := 26) (gDec iX11_point_ok 13 rfl) (by decide) rfl (fun c23 => False.elim (absurd c23 (by decide))) (fun c23 => ?_)
    refine go_iconst (v := nI 0) (q := 27) (gDec iX11_point_ok 14 rfl) (by decide) rfl ?_
    refine go_goto (t := 52) (gDec iX11_point_ok 15 rfl) (by decide) ?_
    exact go_ireturn (gDec iX11_point_ok 29 rfl) rfl rfl rfl (congrArg (gPut σ 376 5) xc_O_O) (by decide)

set_option maxHeartbeats 4000000 in
set_option maxRecDepth 100000 in
theorem ctX11_find {κ : gK} {σ τ : gST} {c : Int32} (hC : gCI τ) (hM : gMR τ (σ.1 377)) : gCt κ mX11_find 9 [.ref (κ.2.1 + 376), .int c] σ (rI (aI (fFind τ c).1)) (gPut σ 376 5 (xC kN (fFind τ c).1)) 0 := by
  have hW := hC.dw
  have h24 := hW.ng24
  refine ct_of (by decide +kernel) rfl (Nat.le_of_ble_eq_true rfl) rfl ?_
  rcases gFind_ex (f := τ.1 4) (c := c) (gNg τ) 0 with h1 | ⟨k, -, hk, h1, -⟩
  · rw [show fFind τ c = (xNSE, τ) from if_pos h1]
    refine go_aload_n (q := 1) (gDec iX11_find_ok 0 rfl) rfl rfl rfl ?_
    refine go_iload_n (q := 2) (gDec iX11_find_ok 1 rfl) rfl rfl rfl ?_
    refine go_callV (n2 := 0) (q := 5) kX11_85 (ctX11_withCode (τ := τ) hW hM) (gDec iX11_find_ok 2 rfl) rfl rfl (by decide) rfl rfl rfl (Nat.le_of_ble_eq_true rfl) rfl (gFit_rm (by decide) (by decide)) rfl ?_
    refine go_top (v' := -1) (h1) ?_
    refine go_istore_n (q := 6) (gDec iX11_find_ok 3 rfl) rfl (by decide) rfl ?_
    refine go_aload_n (q := 7) (gDec iX11_find_ok 4 rfl) rfl rfl rfl ?_
    refine go_iload_n (q := 8) (gDec iX11_find_ok 5 rfl) rfl rfl rfl ?_
    refine go_if_ge (t := 15) (q := 11) (gDec iX11_find_ok 6 rfl) (by decide) rfl (fun c8 => False.elim (absurd c8 (by decide))) (fun c8 => ?_)
    refine go_iconst (v := nI 1) (q := 12) (gDec iX11_find_ok 7 rfl) (by decide) rfl ?_
    refine go_goto (t := 16) (gDec iX11_find_ok 8 rfl) (by decide) ?_
    refine go_puti (q := 19) fX11_54 gft11 (gDec iX11_find_ok 10 rfl) rfl (by decide) rfl rfl rfl rfl ?_
    refine go_aload_n (q := 20) (gDec iX11_find_ok 11 rfl) rfl rfl rfl ?_
    refine go_geti (q := 23) fX11_54 (gDec iX11_find_ok 12 rfl) rfl (by decide) rfl ?_
    refine go_top (v' := nI 1) rfl ?_
    refine go_if_le (t := 30) (q := 26) (gDec iX11_find_ok 13 rfl) (by decide) rfl (fun c23 => False.elim (absurd c23 (by decide))) (fun c23 => ?_)
    refine go_iconst (v := nI 0) (q := 27) (gDec iX11_find_ok 14 rfl) (by decide) rfl ?_
    refine go_goto (t := 31) (gDec iX11_find_ok 15 rfl) (by decide) ?_
    exact go_ireturn (gDec iX11_find_ok 17 rfl) rfl rfl rfl (congrArg (gPut σ 376 5) xc_N_N) (by decide)
  · rw [show fFind τ c = (rI (nI k), τ) from (if_neg (by rw [h1]; exact fun h9 => nI_pos (n := k) (by omega) (by rw [h9]; decide))).trans (by rw [h1])]
    refine go_aload_n (q := 1) (gDec iX11_find_ok 0 rfl) rfl rfl rfl ?_
    refine go_iload_n (q := 2) (gDec iX11_find_ok 1 rfl) rfl rfl rfl ?_
    refine go_callV (n2 := 0) (q := 5) kX11_85 (ctX11_withCode (τ := τ) hW hM) (gDec iX11_find_ok 2 rfl) rfl rfl (by decide) rfl rfl rfl (Nat.le_of_ble_eq_true rfl) rfl (gFit_rm (by decide) (by decide)) rfl ?_
    refine go_top (v' := nI k) (h1) ?_
    refine go_istore_n (q := 6) (gDec iX11_find_ok 3 rfl) rfl (by decide) rfl ?_
    refine go_aload_n (q := 7) (gDec iX11_find_ok 4 rfl) rfl rfl rfl ?_
    refine go_iload_n (q := 8) (gDec iX11_find_ok 5 rfl) rfl rfl rfl ?_
    refine go_if_ge (t := 15) (q := 11) (gDec iX11_find_ok 6 rfl) (by decide) rfl (fun c8 => ?_) (fun c8 => False.elim (c8 (nI_pos' (by omega))))
    refine go_iconst (v := nI 0) (q := 16) (gDec iX11_find_ok 9 rfl) (by decide) rfl ?_
    refine go_puti (q := 19) fX11_54 gft11 (gDec iX11_find_ok 10 rfl) rfl (by decide) rfl rfl rfl rfl ?_
    refine go_aload_n (q := 20) (gDec iX11_find_ok 11 rfl) rfl rfl rfl ?_
    refine go_geti (q := 23) fX11_54 (gDec iX11_find_ok 12 rfl) rfl (by decide) rfl ?_
    refine go_top (v' := nI 0) rfl ?_
    refine go_if_le (t := 30) (q := 26) (gDec iX11_find_ok 13 rfl) (by decide) rfl (fun c23 => ?_) (fun c23 => False.elim (c23 (by decide)))
    refine go_iload_n (q := 31) (gDec iX11_find_ok 16 rfl) rfl rfl rfl ?_
    exact go_ireturn (gDec iX11_find_ok 17 rfl) rfl rfl rfl rfl (by decide)

set_option maxHeartbeats 4000000 in
set_option maxRecDepth 100000 in
theorem ctX11_kern {κ : gK} {σ τ : gST} {g h : Int32} (hC : gCI τ) (hM : gMR τ (σ.1 377)) : gCt κ mX11_kern 9 [.ref (κ.2.1 + 376), .int g, .int h] σ (rI (aI (fKern τ g h).1)) (gPut σ 376 5 (xC kO (fKern τ g h).1)) 0 := by
  have hW := hC.dw
  have h24 := hW.ng24
  refine ct_of (by decide +kernel) rfl (Nat.le_of_ble_eq_true rfl) rfl ?_
  by_cases h1 : gInG τ g
  · by_cases h2 : gInG τ h
    · have hs : fKern τ g h = _ := if_pos ⟨h1, h2⟩
      rw [hs]
      obtain ⟨i, hi, rfl⟩ := gInG.ex h1
      obtain ⟨j, hj, rfl⟩ := gInG.ex h2
      rw [nA_nI (n := i) (by omega), nA_nI (n := j) (by omega)]
      refine go_aload_n (q := 1) (gDec iX11_kern_ok 0 rfl) rfl rfl rfl ?_
      refine go_aload_n (q := 2) (gDec iX11_kern_ok 1 rfl) rfl rfl rfl ?_
      refine go_iload_n (q := 3) (gDec iX11_kern_ok 2 rfl) rfl rfl rfl ?_
      refine go_callV (n2 := 0) (q := 6) kX11_65 (ctX11_isGlyph (τ := τ) hW hM) (gDec iX11_kern_ok 3 rfl) rfl rfl (by decide) rfl rfl rfl (Nat.le_of_ble_eq_true rfl) rfl (gFit_rm (by decide) (by decide)) rfl ?_
      refine go_top (v' := 1) (gWi_t (by (try rw [i2l_toInt]); exact h1)) ?_
      refine go_if_eq (t := 21) (q := 9) (gDec iX11_kern_ok 4 rfl) (by decide) rfl (fun c6 => False.elim (absurd c6 (by decide))) (fun c6 => ?_)
      refine go_aload_n (q := 10) (gDec iX11_kern_ok 5 rfl) rfl rfl rfl ?_
      refine go_iload_n (q := 11) (gDec iX11_kern_ok 6 rfl) rfl rfl rfl ?_
      refine go_callV (n2 := 0) (q := 14) kX11_65 (ctX11_isGlyph (τ := τ) hW hM) (gDec iX11_kern_ok 7 rfl) rfl rfl (by decide) rfl rfl rfl (Nat.le_of_ble_eq_true rfl) rfl (gFit_rm (by decide) (by decide)) rfl ?_
      refine go_top (v' := 1) (gWi_t (by (try rw [i2l_toInt]); exact h2)) ?_
      refine go_if_eq (t := 21) (q := 17) (gDec iX11_kern_ok 8 rfl) (by decide) rfl (fun c14 => False.elim (absurd c14 (by decide))) (fun c14 => ?_)
      refine go_iconst (v := nI 0) (q := 18) (gDec iX11_kern_ok 9 rfl) (by decide) rfl ?_
      refine go_goto (t := 22) (gDec iX11_kern_ok 10 rfl) (by decide) ?_
      refine go_puti (q := 25) fX11_54 gft11 (gDec iX11_kern_ok 12 rfl) rfl (by decide) rfl rfl rfl rfl ?_
      refine go_aload_n (q := 26) (gDec iX11_kern_ok 13 rfl) rfl rfl rfl ?_
      refine go_geti (q := 29) fX11_54 (gDec iX11_kern_ok 14 rfl) rfl (by decide) rfl ?_
      refine go_top (v' := nI 0) rfl ?_
      refine go_if_le (t := 36) (q := 32) (gDec iX11_kern_ok 15 rfl) (by decide) rfl (fun c29 => ?_) (fun c29 => False.elim (c29 (by decide)))
      refine go_aload_n (q := 37) (gDec iX11_kern_ok 18 rfl) rfl rfl rfl ?_
      refine go_iload_n (q := 38) (gDec iX11_kern_ok 19 rfl) rfl rfl rfl ?_
      refine go_iload_n (q := 39) (gDec iX11_kern_ok 20 rfl) rfl rfl rfl ?_
      refine go_callV (n2 := 0) (q := 42) kX11_172 (ctX11_kernOf (τ := τ) hW (gMRt hM) hi hj) (gDec iX11_kern_ok 21 rfl) rfl rfl (by decide) rfl rfl rfl (Nat.le_of_ble_eq_true rfl) rfl (gFit_rm (by decide) (by decide)) rfl ?_
      exact go_ireturn (gDec iX11_kern_ok 22 rfl) rfl rfl rfl rfl (by decide)
    · rw [show fKern τ g h = _ from if_neg (fun h9 => h2 h9.2)]
      refine go_aload_n (q := 1) (gDec iX11_kern_ok 0 rfl) rfl rfl rfl ?_
      refine go_aload_n (q := 2) (gDec iX11_kern_ok 1 rfl) rfl rfl rfl ?_
      refine go_iload_n (q := 3) (gDec iX11_kern_ok 2 rfl) rfl rfl rfl ?_
      refine go_callV (n2 := 0) (q := 6) kX11_65 (ctX11_isGlyph (τ := τ) hW hM) (gDec iX11_kern_ok 3 rfl) rfl rfl (by decide) rfl rfl rfl (Nat.le_of_ble_eq_true rfl) rfl (gFit_rm (by decide) (by decide)) rfl ?_
      refine go_top (v' := 1) (gWi_t (by (try rw [i2l_toInt]); exact h1)) ?_
      refine go_if_eq (t := 21) (q := 9) (gDec iX11_kern_ok 4 rfl) (by decide) rfl (fun c6 => False.elim (absurd c6 (by decide))) (fun c6 => ?_)
      refine go_aload_n (q := 10) (gDec iX11_kern_ok 5 rfl) rfl rfl rfl ?_
      refine go_iload_n (q := 11) (gDec iX11_kern_ok 6 rfl) rfl rfl rfl ?_
      refine go_callV (n2 := 0) (q := 14) kX11_65 (ctX11_isGlyph (τ := τ) hW hM) (gDec iX11_kern_ok 7 rfl) rfl rfl (by decide) rfl rfl rfl (Nat.le_of_ble_eq_true rfl) rfl (gFit_rm (by decide) (by decide)) rfl ?_
      refine go_top (v' := 0) (gWi_f (by (try rw [i2l_toInt]); exact h2)) ?_
      refine go_if_eq (t := 21) (q := 17) (gDec iX11_kern_ok 8 rfl) (by decide) rfl (fun c14 => ?_) (fun c14 => False.elim (c14 rfl))
      refine go_iconst (v := nI 1) (q := 22) (gDec iX11_kern_ok 11 rfl) (by decide) rfl ?_
      refine go_puti (q := 25) fX11_54 gft11 (gDec iX11_kern_ok 12 rfl) rfl (by decide) rfl rfl rfl rfl ?_
      refine go_aload_n (q := 26) (gDec iX11_kern_ok 13 rfl) rfl rfl rfl ?_
      refine go_geti (q := 29) fX11_54 (gDec iX11_kern_ok 14 rfl) rfl (by decide) rfl ?_
      refine go_top (v' := nI 1) rfl ?_
      refine go_if_le (t := 36) (q := 32) (gDec iX11_kern_ok 15 rfl) (by decide) rfl (fun c29 => False.elim (absurd c29 (by decide))) (fun c29 => ?_)
      refine go_iconst (v := nI 0) (q := 33) (gDec iX11_kern_ok 16 rfl) (by decide) rfl ?_
      refine go_goto (t := 42) (gDec iX11_kern_ok 17 rfl) (by decide) ?_
      exact go_ireturn (gDec iX11_kern_ok 22 rfl) rfl rfl rfl (congrArg (gPut σ 376 5) xc_O_O) (by decide)
  · rw [show fKern τ g h = _ from if_neg (fun h9 => h1 h9.1)]
    refine go_aload_n (q := 1) (gDec iX11_kern_ok 0 rfl) rfl rfl rfl ?_
    refine go_aload_n (q := 2) (gDec iX11_kern_ok 1 rfl) rfl rfl rfl ?_
    refine go_iload_n (q := 3) (gDec iX11_kern_ok 2 rfl) rfl rfl rfl ?_
    refine go_callV (n2 := 0) (q := 6) kX11_65 (ctX11_isGlyph (τ := τ) hW hM) (gDec iX11_kern_ok 3 rfl) rfl rfl (by decide) rfl rfl rfl (Nat.le_of_ble_eq_true rfl) rfl (gFit_rm (by decide) (by decide)) rfl ?_
    refine go_top (v' := 0) (gWi_f (by (try rw [i2l_toInt]); exact h1)) ?_
    refine go_if_eq (t := 21) (q := 9) (gDec iX11_kern_ok 4 rfl) (by decide) rfl (fun c6 => ?_) (fun c6 => False.elim (c6 rfl))
    refine go_iconst (v := nI 1) (q := 22) (gDec iX11_kern_ok 11 rfl) (by decide) rfl ?_
    refine go_puti (q := 25) fX11_54 gft11 (gDec iX11_kern_ok 12 rfl) rfl (by decide) rfl rfl rfl rfl ?_
    refine go_aload_n (q := 26) (gDec iX11_kern_ok 13 rfl) rfl rfl rfl ?_
    refine go_geti (q := 29) fX11_54 (gDec iX11_kern_ok 14 rfl) rfl (by decide) rfl ?_
    refine go_top (v' := nI 1) rfl ?_
    refine go_if_le (t := 36) (q := 32) (gDec iX11_kern_ok 15 rfl) (by decide) rfl (fun c29 => False.elim (absurd c29 (by decide))) (fun c29 => ?_)
    refine go_iconst (v := nI 0) (q := 33) (gDec iX11_kern_ok 16 rfl) (by decide) rfl ?_
    refine go_goto (t := 42) (gDec iX11_kern_ok 17 rfl) (by decide) ?_
    exact go_ireturn (gDec iX11_kern_ok 22 rfl) rfl rfl rfl (congrArg (gPut σ 376 5) xc_O_O) (by decide)

theorem gTC_01 (f : Nat → Int32) (x y : Option Nat) (h : ¬ gTC f x y = 0) : gTC f x y = 1 := by
  cases x with
  | none => exact absurd rfl h
  | some a =>
    cases y with
    | none => exact absurd rfl h
    | some b =>
      show (if f (a * 6 + b) = 301 then (0 : Int32) else 1) = 1
      by_cases h1 : f (a * 6 + b) = 301
      · exact absurd (if_pos h1) h
      · exact if_neg h1

set_option maxHeartbeats 4000000 in
set_option maxRecDepth 100000 in
theorem ctX11_why {κ : gK} {σ τ : gST} {g h : Int32} (hC : gCI τ) (hM : gMR τ (σ.1 377)) : gCt κ mX11_why 9 [.ref (κ.2.1 + 376), .int g, .int h] σ (rI (aI (fWhy τ g h).1)) (gPut σ 376 5 (xC kO (fWhy τ g h).1)) 0 := by
  have hW := hC.dw
  have h24 := hW.ng24
  refine ct_of (by decide +kernel) rfl (Nat.le_of_ble_eq_true rfl) rfl ?_
  by_cases h1 : gInG τ g
  · by_cases h2 : gInG τ h
    · have hs : fWhy τ g h = _ := if_pos ⟨h1, h2⟩
      rw [hs]
      obtain ⟨i, hi, rfl⟩ := gInG.ex h1
      obtain ⟨j, hj, rfl⟩ := gInG.ex h2
      rw [nA_nI (n := i) (by omega), nA_nI (n := j) (by omega)]
      by_cases h3 : τ.1 28 (i * 24 + j) = 301
      · rw [if_pos h3]
        by_cases h4 : gTC (τ.1 26) (gKx τ i) (gKy τ j) = 0
        · rw [if_pos h4]
          refine go_aload_n (q := 1) (gDec iX11_why_ok 0 rfl) rfl rfl rfl ?_
          refine go_aload_n (q := 2) (gDec iX11_why_ok 1 rfl) rfl rfl rfl ?_
          refine go_iload_n (q := 3) (gDec iX11_why_ok 2 rfl) rfl rfl rfl ?_
          refine go_callV (n2 := 0) (q := 6) kX11_65 (ctX11_isGlyph (τ := τ) hW hM) (gDec iX11_why_ok 3 rfl) rfl rfl (by decide) rfl rfl rfl (Nat.le_of_ble_eq_true rfl) rfl (gFit_rm (by decide) (by decide)) rfl ?_
          refine go_top (v' := 1) (gWi_t (by (try rw [i2l_toInt]); exact h1)) ?_
          refine go_if_eq (t := 21) (q := 9) (gDec iX11_why_ok 4 rfl) (by decide) rfl (fun c6 => False.elim (absurd c6 (by decide))) (fun c6 => ?_)
          refine go_aload_n (q := 10) (gDec iX11_why_ok 5 rfl) rfl rfl rfl ?_
          refine go_iload_n (q := 11) (gDec iX11_why_ok 6 rfl) rfl rfl rfl ?_
          refine go_callV (n2 := 0) (q := 14) kX11_65 (ctX11_isGlyph (τ := τ) hW hM) (gDec iX11_why_ok 7 rfl) rfl rfl (by decide) rfl rfl rfl (Nat.le_of_ble_eq_true rfl) rfl (gFit_rm (by decide) (by decide)) rfl ?_
          refine go_top (v' := 1) (gWi_t (by (try rw [i2l_toInt]); exact h2)) ?_
          refine go_if_eq (t := 21) (q := 17) (gDec iX11_why_ok 8 rfl) (by decide) rfl (fun c14 => False.elim (absurd c14 (by decide))) (fun c14 => ?_)
          refine go_iconst (v := nI 0) (q := 18) (gDec iX11_why_ok 9 rfl) (by decide) rfl ?_
          refine go_goto (t := 22) (gDec iX11_why_ok 10 rfl) (by decide) ?_
          refine go_puti (q := 25) fX11_54 gft11 (gDec iX11_why_ok 12 rfl) rfl (by decide) rfl rfl rfl rfl ?_
          refine go_aload_n (q := 26) (gDec iX11_why_ok 13 rfl) rfl rfl rfl ?_
          refine go_geti (q := 29) fX11_54 (gDec iX11_why_ok 14 rfl) rfl (by decide) rfl ?_
          refine go_top (v' := nI 0) rfl ?_
          refine go_if_le (t := 34) (q := 32) (gDec iX11_why_ok 15 rfl) (by decide) rfl (fun c29 => ?_) (fun c29 => False.elim (c29 (by decide)))
          refine go_aload_n (q := 35) (gDec iX11_why_ok 18 rfl) rfl rfl rfl ?_
          refine go_iload_n (q := 36) (gDec iX11_why_ok 19 rfl) rfl rfl rfl ?_
          refine go_iload_n (q := 37) (gDec iX11_why_ok 20 rfl) rfl rfl rfl ?_
          refine go_callV (n2 := 0) (q := 40) kX11_169 (ctX11_hasClassKern (τ := τ) hW (gMRt hM) hi hj) (gDec iX11_why_ok 21 rfl) rfl rfl (by decide) rfl rfl rfl (Nat.le_of_ble_eq_true rfl) rfl (gFit_rm (by decide) (by decide)) rfl ?_
          refine go_top (v' := 0) (h4) ?_
          refine go_if_eq (t := 47) (q := 43) (gDec iX11_why_ok 22 rfl) (by decide) rfl (fun c40 => ?_) (fun c40 => False.elim (c40 rfl))
          refine go_iconst (v := 0) (q := 48) (gDec iX11_why_ok 25 rfl) (by decide) rfl ?_
          refine go_istore_n (q := 49) (gDec iX11_why_ok 26 rfl) rfl (by decide) rfl ?_
          refine go_aload_n (q := 50) (gDec iX11_why_ok 27 rfl) rfl rfl rfl ?_
          refine go_iload_n (q := 51) (gDec iX11_why_ok 28 rfl) rfl rfl rfl ?_
          refine go_iload_n (q := 52) (gDec iX11_why_ok 29 rfl) rfl rfl rfl ?_
          refine go_callV (n2 := 0) (q := 55) kX11_163 (ctX11_pairOf (τ := τ) (gMRt hM)) (gDec iX11_why_ok 30 rfl) rfl rfl (by decide) rfl rfl rfl (Nat.le_of_ble_eq_true rfl) rfl (gFit_rm (by decide) (by decide)) rfl ?_
          refine go_top (v' := -1) (gPo_none (gMRt hM).mp (by omega) (by omega) h3) ?_
          refine go_if_lt (t := 64) (q := 58) (gDec iX11_why_ok 31 rfl) (by decide) rfl (fun c55 => ?_) (fun c55 => False.elim (c55 (by decide)))
          refine go_iload_n (q := 65) (gDec iX11_why_ok 36 rfl) rfl rfl rfl ?_
          exact go_ireturn (gDec iX11_why_ok 37 rfl) rfl rfl rfl rfl (by decide)
        · have h4x := gTC_01 _ _ _ h4
          rw [if_neg h4]
          refine go_aload_n (q := 1) (gDec iX11_why_ok 0 rfl) rfl rfl rfl ?_
          refine go_aload_n (q := 2) (gDec iX11_why_ok 1 rfl) rfl rfl rfl ?_
          refine go_iload_n (q := 3) (gDec iX11_why_ok 2 rfl) rfl rfl rfl ?_
          refine go_callV (n2 := 0) (q := 6) kX11_65 (ctX11_isGlyph (τ := τ) hW hM) (gDec iX11_why_ok 3 rfl) rfl rfl (by decide) rfl rfl rfl (Nat.le_of_ble_eq_true rfl) rfl (gFit_rm (by decide) (by decide)) rfl ?_
          refine go_top (v' := 1) (gWi_t (by (try rw [i2l_toInt]); exact h1)) ?_
          refine go_if_eq (t := 21) (q := 9) (gDec iX11_why_ok 4 rfl) (by decide) rfl (fun c6 => False.elim (absurd c6 (by decide))) (fun c6 => ?_)
          refine go_aload_n (q := 10) (gDec iX11_why_ok 5 rfl) rfl rfl rfl ?_
          refine go_iload_n (q := 11) (gDec iX11_why_ok 6 rfl) rfl rfl rfl ?_
          refine go_callV (n2 := 0) (q := 14) kX11_65 (ctX11_isGlyph (τ := τ) hW hM) (gDec iX11_why_ok 7 rfl) rfl rfl (by decide) rfl rfl rfl (Nat.le_of_ble_eq_true rfl) rfl (gFit_rm (by decide) (by decide)) rfl ?_
          refine go_top (v' := 1) (gWi_t (by (try rw [i2l_toInt]); exact h2)) ?_
          refine go_if_eq (t := 21) (q := 17) (gDec iX11_why_ok 8 rfl) (by decide) rfl (fun c14 => False.elim (absurd c14 (by decide))) (fun c14 => ?_)
          refine go_iconst (v := nI 0) (q := 18) (gDec iX11_why_ok 9 rfl) (by decide) rfl ?_
          refine go_goto (t := 22) (gDec iX11_why_ok 10 rfl) (by decide) ?_
          refine go_puti (q := 25) fX11_54 gft11 (gDec iX11_why_ok 12 rfl) rfl (by decide) rfl rfl rfl rfl ?_
          refine go_aload_n (q := 26) (gDec iX11_why_ok 13 rfl) rfl rfl rfl ?_
          refine go_geti (q := 29) fX11_54 (gDec iX11_why_ok 14 rfl) rfl (by decide) rfl ?_
          refine go_top (v' := nI 0) rfl ?_
          refine go_if_le (t := 34) (q := 32) (gDec iX11_why_ok 15 rfl) (by decide) rfl (fun c29 => ?_) (fun c29 => False.elim (c29 (by decide)))
          refine go_aload_n (q := 35) (gDec iX11_why_ok 18 rfl) rfl rfl rfl ?_
          refine go_iload_n (q := 36) (gDec iX11_why_ok 19 rfl) rfl rfl rfl ?_
          refine go_iload_n (q := 37) (gDec iX11_why_ok 20 rfl) rfl rfl rfl ?_
          refine go_callV (n2 := 0) (q := 40) kX11_169 (ctX11_hasClassKern (τ := τ) hW (gMRt hM) hi hj) (gDec iX11_why_ok 21 rfl) rfl rfl (by decide) rfl rfl rfl (Nat.le_of_ble_eq_true rfl) rfl (gFit_rm (by decide) (by decide)) rfl ?_
          refine go_top (v' := 1) (h4x) ?_
          refine go_if_eq (t := 47) (q := 43) (gDec iX11_why_ok 22 rfl) (by decide) rfl (fun c40 => False.elim (absurd c40 (by decide))) (fun c40 => ?_)
          refine go_iconst (v := 1) (q := 44) (gDec iX11_why_ok 23 rfl) (by decide) rfl ?_
          refine go_goto (t := 48) (gDec iX11_why_ok 24 rfl) (by decide) ?_
          refine go_istore_n (q := 49) (gDec iX11_why_ok 26 rfl) rfl (by decide) rfl ?_
          refine go_aload_n (q := 50) (gDec iX11_why_ok 27 rfl) rfl rfl rfl ?_
          refine go_iload_n (q := 51) (gDec iX11_why_ok 28 rfl) rfl rfl rfl ?_
          refine go_iload_n (q := 52) (gDec iX11_why_ok 29 rfl) rfl rfl rfl ?_
          refine go_callV (n2 := 0) (q := 55) kX11_163 (ctX11_pairOf (τ := τ) (gMRt hM)) (gDec iX11_why_ok 30 rfl) rfl rfl (by decide) rfl rfl rfl (Nat.le_of_ble_eq_true rfl) rfl (gFit_rm (by decide) (by decide)) rfl ?_
          refine go_top (v' := -1) (gPo_none (gMRt hM).mp (by omega) (by omega) h3) ?_
          refine go_if_lt (t := 64) (q := 58) (gDec iX11_why_ok 31 rfl) (by decide) rfl (fun c55 => ?_) (fun c55 => False.elim (c55 (by decide)))
          refine go_iload_n (q := 65) (gDec iX11_why_ok 36 rfl) rfl rfl rfl ?_
          exact go_ireturn (gDec iX11_why_ok 37 rfl) rfl rfl rfl rfl (by decide)
      · rw [if_neg h3]
        obtain ⟨k, hk, hk2, -⟩ := gPo_some (gMRt (v := nI 0) hM).mp (i := i) (j := j) (by omega) (by omega) h3
        have h40 := hM.mp.n40
        by_cases h4 : gTC (τ.1 26) (gKx τ i) (gKy τ j) = 0
        · rw [if_pos h4]
          refine go_aload_n (q := 1) (gDec iX11_why_ok 0 rfl) rfl rfl rfl ?_
          refine go_aload_n (q := 2) (gDec iX11_why_ok 1 rfl) rfl rfl rfl ?_
          refine go_iload_n (q := 3) (gDec iX11_why_ok 2 rfl) rfl rfl rfl ?_
          refine go_callV (n2 := 0) (q := 6) kX11_65 (ctX11_isGlyph (τ := τ) hW hM) (gDec iX11_why_ok 3 rfl) rfl rfl (by decide) rfl rfl rfl (Nat.le_of_ble_eq_true rfl) rfl (gFit_rm (by decide) (by decide)) rfl ?_
          refine go_top (v' := 1) (gWi_t (by (try rw [i2l_toInt]); exact h1)) ?_
          refine go_if_eq (t := 21) (q := 9) (gDec iX11_why_ok 4 rfl) (by decide) rfl (fun c6 => False.elim (absurd c6 (by decide))) (fun c6 => ?_)
          refine go_aload_n (q := 10) (gDec iX11_why_ok 5 rfl) rfl rfl rfl ?_
          refine go_iload_n (q := 11) (gDec iX11_why_ok 6 rfl) rfl rfl rfl ?_
          refine go_callV (n2 := 0) (q := 14) kX11_65 (ctX11_isGlyph (τ := τ) hW hM) (gDec iX11_why_ok 7 rfl) rfl rfl (by decide) rfl rfl rfl (Nat.le_of_ble_eq_true rfl) rfl (gFit_rm (by decide) (by decide)) rfl ?_
          refine go_top (v' := 1) (gWi_t (by (try rw [i2l_toInt]); exact h2)) ?_
          refine go_if_eq (t := 21) (q := 17) (gDec iX11_why_ok 8 rfl) (by decide) rfl (fun c14 => False.elim (absurd c14 (by decide))) (fun c14 => ?_)
          refine go_iconst (v := nI 0) (q := 18) (gDec iX11_why_ok 9 rfl) (by decide) rfl ?_
          refine go_goto (t := 22) (gDec iX11_why_ok 10 rfl) (by decide) ?_
          refine go_puti (q := 25) fX11_54 gft11 (gDec iX11_why_ok 12 rfl) rfl (by decide) rfl rfl rfl rfl ?_
          refine go_aload_n (q := 26) (gDec iX11_why_ok 13 rfl) rfl rfl rfl ?_
          refine go_geti (q := 29) fX11_54 (gDec iX11_why_ok 14 rfl) rfl (by decide) rfl ?_
          refine go_top (v' := nI 0) rfl ?_
          refine go_if_le (t := 34) (q := 32) (gDec iX11_why_ok 15 rfl) (by decide) rfl (fun c29 => ?_) (fun c29 => False.elim (c29 (by decide)))
          refine go_aload_n (q := 35) (gDec iX11_why_ok 18 rfl) rfl rfl rfl ?_
          refine go_iload_n (q := 36) (gDec iX11_why_ok 19 rfl) rfl rfl rfl ?_
          refine go_iload_n (q := 37) (gDec iX11_why_ok 20 rfl) rfl rfl rfl ?_
          refine go_callV (n2 := 0) (q := 40) kX11_169 (ctX11_hasClassKern (τ := τ) hW (gMRt hM) hi hj) (gDec iX11_why_ok 21 rfl) rfl rfl (by decide) rfl rfl rfl (Nat.le_of_ble_eq_true rfl) rfl (gFit_rm (by decide) (by decide)) rfl ?_
          refine go_top (v' := 0) (h4) ?_
          refine go_if_eq (t := 47) (q := 43) (gDec iX11_why_ok 22 rfl) (by decide) rfl (fun c40 => ?_) (fun c40 => False.elim (c40 rfl))
          refine go_iconst (v := 0) (q := 48) (gDec iX11_why_ok 25 rfl) (by decide) rfl ?_
          refine go_istore_n (q := 49) (gDec iX11_why_ok 26 rfl) rfl (by decide) rfl ?_
          refine go_aload_n (q := 50) (gDec iX11_why_ok 27 rfl) rfl rfl rfl ?_
          refine go_iload_n (q := 51) (gDec iX11_why_ok 28 rfl) rfl rfl rfl ?_
          refine go_iload_n (q := 52) (gDec iX11_why_ok 29 rfl) rfl rfl rfl ?_
          refine go_callV (n2 := 0) (q := 55) kX11_163 (ctX11_pairOf (τ := τ) (gMRt hM)) (gDec iX11_why_ok 30 rfl) rfl rfl (by decide) rfl rfl rfl (Nat.le_of_ble_eq_true rfl) rfl (gFit_rm (by decide) (by decide)) rfl ?_
          refine go_top (v' := nI k) (hk2) ?_
          refine go_if_lt (t := 64) (q := 58) (gDec iX11_why_ok 31 rfl) (by decide) rfl (fun c55 => False.elim (nI_pos (n := k) (by omega) c55)) (fun c55 => ?_)
          refine go_iconst (v := 2) (q := 59) (gDec iX11_why_ok 32 rfl) (by decide) rfl ?_
          refine go_iload_n (q := 60) (gDec iX11_why_ok 33 rfl) rfl rfl rfl ?_
          refine go_iadd (q := 61) (gDec iX11_why_ok 34 rfl) rfl ?_
          refine go_goto (t := 65) (gDec iX11_why_ok 35 rfl) (by decide) ?_
          exact go_ireturn (gDec iX11_why_ok 37 rfl) rfl rfl rfl rfl (by decide)
        · have h4x := gTC_01 _ _ _ h4
          rw [if_neg h4]
          refine go_aload_n (q := 1) (gDec iX11_why_ok 0 rfl) rfl rfl rfl ?_
          refine go_aload_n (q := 2) (gDec iX11_why_ok 1 rfl) rfl rfl rfl ?_
          refine go_iload_n (q := 3) (gDec iX11_why_ok 2 rfl) rfl rfl rfl ?_
          refine go_callV (n2 := 0) (q := 6) kX11_65 (ctX11_isGlyph (τ := τ) hW hM) (gDec iX11_why_ok 3 rfl) rfl rfl (by decide) rfl rfl rfl (Nat.le_of_ble_eq_true rfl) rfl (gFit_rm (by decide) (by decide)) rfl ?_
          refine go_top (v' := 1) (gWi_t (by (try rw [i2l_toInt]); exact h1)) ?_
          refine go_if_eq (t := 21) (q := 9) (gDec iX11_why_ok 4 rfl) (by decide) rfl (fun c6 => False.elim (absurd c6 (by decide))) (fun c6 => ?_)
          refine go_aload_n (q := 10) (gDec iX11_why_ok 5 rfl) rfl rfl rfl ?_
          refine go_iload_n (q := 11) (gDec iX11_why_ok 6 rfl) rfl rfl rfl ?_
          refine go_callV (n2 := 0) (q := 14) kX11_65 (ctX11_isGlyph (τ := τ) hW hM) (gDec iX11_why_ok 7 rfl) rfl rfl (by decide) rfl rfl rfl (Nat.le_of_ble_eq_true rfl) rfl (gFit_rm (by decide) (by decide)) rfl ?_
          refine go_top (v' := 1) (gWi_t (by (try rw [i2l_toInt]); exact h2)) ?_
          refine go_if_eq (t := 21) (q := 17) (gDec iX11_why_ok 8 rfl) (by decide) rfl (fun c14 => False.elim (absurd c14 (by decide))) (fun c14 => ?_)
          refine go_iconst (v := nI 0) (q := 18) (gDec iX11_why_ok 9 rfl) (by decide) rfl ?_
          refine go_goto (t := 22) (gDec iX11_why_ok 10 rfl) (by decide) ?_
          refine go_puti (q := 25) fX11_54 gft11 (gDec iX11_why_ok 12 rfl) rfl (by decide) rfl rfl rfl rfl ?_
          refine go_aload_n (q := 26) (gDec iX11_why_ok 13 rfl) rfl rfl rfl ?_
          refine go_geti (q := 29) fX11_54 (gDec iX11_why_ok 14 rfl) rfl (by decide) rfl ?_
          refine go_top (v' := nI 0) rfl ?_
          refine go_if_le (t := 34) (q := 32) (gDec iX11_why_ok 15 rfl) (by decide) rfl (fun c29 => ?_) (fun c29 => False.elim (c29 (by decide)))
          refine go_aload_n (q := 35) (gDec iX11_why_ok 18 rfl) rfl rfl rfl ?_
          refine go_iload_n (q := 36) (gDec iX11_why_ok 19 rfl) rfl rfl rfl ?_
          refine go_iload_n (q := 37) (gDec iX11_why_ok 20 rfl) rfl rfl rfl ?_
          refine go_callV (n2 := 0) (q := 40) kX11_169 (ctX11_hasClassKern (τ := τ) hW (gMRt hM) hi hj) (gDec iX11_why_ok 21 rfl) rfl rfl (by decide) rfl rfl rfl (Nat.le_of_ble_eq_true rfl) rfl (gFit_rm (by decide) (by decide)) rfl ?_
          refine go_top (v' := 1) (h4x) ?_
          refine go_if_eq (t := 47) (q := 43) (gDec iX11_why_ok 22 rfl) (by decide) rfl (fun c40 => False.elim (absurd c40 (by decide))) (fun c40 => ?_)
          refine go_iconst (v := 1) (q := 44) (gDec iX11_why_ok 23 rfl) (by decide) rfl ?_
          refine go_goto (t := 48) (gDec iX11_why_ok 24 rfl) (by decide) ?_
          refine go_istore_n (q := 49) (gDec iX11_why_ok 26 rfl) rfl (by decide) rfl ?_
          refine go_aload_n (q := 50) (gDec iX11_why_ok 27 rfl) rfl rfl rfl ?_
          refine go_iload_n (q := 51) (gDec iX11_why_ok 28 rfl) rfl rfl rfl ?_
          refine go_iload_n (q := 52) (gDec iX11_why_ok 29 rfl) rfl rfl rfl ?_
          refine go_callV (n2 := 0) (q := 55) kX11_163 (ctX11_pairOf (τ := τ) (gMRt hM)) (gDec iX11_why_ok 30 rfl) rfl rfl (by decide) rfl rfl rfl (Nat.le_of_ble_eq_true rfl) rfl (gFit_rm (by decide) (by decide)) rfl ?_
          refine go_top (v' := nI k) (hk2) ?_
          refine go_if_lt (t := 64) (q := 58) (gDec iX11_why_ok 31 rfl) (by decide) rfl (fun c55 => False.elim (nI_pos (n := k) (by omega) c55)) (fun c55 => ?_)
          refine go_iconst (v := 2) (q := 59) (gDec iX11_why_ok 32 rfl) (by decide) rfl ?_
          refine go_iload_n (q := 60) (gDec iX11_why_ok 33 rfl) rfl rfl rfl ?_
          refine go_iadd (q := 61) (gDec iX11_why_ok 34 rfl) rfl ?_
          refine go_goto (t := 65) (gDec iX11_why_ok 35 rfl) (by decide) ?_
          exact go_ireturn (gDec iX11_why_ok 37 rfl) rfl rfl rfl rfl (by decide)
    · rw [show fWhy τ g h = _ from if_neg (fun h9 => h2 h9.2)]
      refine go_aload_n (q := 1) (gDec iX11_why_ok 0 rfl) rfl rfl rfl ?_
      refine go_aload_n (q := 2) (gDec iX11_why_ok 1 rfl) rfl rfl rfl ?_
      refine go_iload_n (q := 3) (gDec iX11_why_ok 2 rfl) rfl rfl rfl ?_
      refine go_callV (n2 := 0) (q := 6) kX11_65 (ctX11_isGlyph (τ := τ) hW hM) (gDec iX11_why_ok 3 rfl) rfl rfl (by decide) rfl rfl rfl (Nat.le_of_ble_eq_true rfl) rfl (gFit_rm (by decide) (by decide)) rfl ?_
      refine go_top (v' := 1) (gWi_t (by (try rw [i2l_toInt]); exact h1)) ?_
      refine go_if_eq (t := 21) (q := 9) (gDec iX11_why_ok 4 rfl) (by decide) rfl (fun c6 => False.elim (absurd c6 (by decide))) (fun c6 => ?_)
      refine go_aload_n (q := 10) (gDec iX11_why_ok 5 rfl) rfl rfl rfl ?_
      refine go_iload_n (q := 11) (gDec iX11_why_ok 6 rfl) rfl rfl rfl ?_
      refine go_callV (n2 := 0) (q := 14) kX11_65 (ctX11_isGlyph (τ := τ) hW hM) (gDec iX11_why_ok 7 rfl) rfl rfl (by decide) rfl rfl rfl (Nat.le_of_ble_eq_true rfl) rfl (gFit_rm (by decide) (by decide)) rfl ?_
      refine go_top (v' := 0) (gWi_f (by (try rw [i2l_toInt]); exact h2)) ?_
      refine go_if_eq (t := 21) (q := 17) (gDec iX11_why_ok 8 rfl) (by decide) rfl (fun c14 => ?_) (fun c14 => False.elim (c14 rfl))
      refine go_iconst (v := nI 1) (q := 22) (gDec iX11_why_ok 11 rfl) (by decide) rfl ?_
      refine go_puti (q := 25) fX11_54 gft11 (gDec iX11_why_ok 12 rfl) rfl (by decide) rfl rfl rfl rfl ?_
      refine go_aload_n (q := 26) (gDec iX11_why_ok 13 rfl) rfl rfl rfl ?_
      refine go_geti (q := 29) fX11_54 (gDec iX11_why_ok 14 rfl) rfl (by decide) rfl ?_
      refine go_top (v' := nI 1) rfl ?_
      refine go_if_le (t := 34) (q := 32) (gDec iX11_why_ok 15 rfl) (by decide) rfl (fun c29 => False.elim (absurd c29 (by decide))) (fun c29 => ?_)
      refine go_iconst (v := nI 0) (q := 33) (gDec iX11_why_ok 16 rfl) (by decide) rfl ?_
      exact go_ireturn (gDec iX11_why_ok 17 rfl) rfl rfl rfl (congrArg (gPut σ 376 5) xc_O_O) (by decide)
  · rw [show fWhy τ g h = _ from if_neg (fun h9 => h1 h9.1)]
    refine go_aload_n (q := 1) (gDec iX11_why_ok 0 rfl) rfl rfl rfl ?_
    refine go_aload_n (q := 2) (gDec iX11_why_ok 1 rfl) rfl rfl rfl ?_
    refine go_iload_n (q := 3) (gDec iX11_why_ok 2 rfl) rfl rfl rfl ?_
    refine go_callV (n2 := 0) (q := 6) kX11_65 (ctX11_isGlyph (τ := τ) hW hM) (gDec iX11_why_ok 3 rfl) rfl rfl (by decide) rfl rfl rfl (Nat.le_of_ble_eq_true rfl) rfl (gFit_rm (by decide) (by decide)) rfl ?_
    refine go_top (v' := 0) (gWi_f (by (try rw [i2l_toInt]); exact h1)) ?_
    refine go_if_eq (t := 21) (q := 9) (gDec iX11_why_ok 4 rfl) (by decide) rfl (fun c6 => ?_) (fun c6 => False.elim (c6 rfl))
    refine go_iconst (v := nI 1) (q := 22) (gDec iX11_why_ok 11 rfl) (by decide) rfl ?_
    refine go_puti (q := 25) fX11_54 gft11 (gDec iX11_why_ok 12 rfl) rfl (by decide) rfl rfl rfl rfl ?_
    refine go_aload_n (q := 26) (gDec iX11_why_ok 13 rfl) rfl rfl rfl ?_
    refine go_geti (q := 29) fX11_54 (gDec iX11_why_ok 14 rfl) rfl (by decide) rfl ?_
    refine go_top (v' := nI 1) rfl ?_
    refine go_if_le (t := 34) (q := 32) (gDec iX11_why_ok 15 rfl) (by decide) rfl (fun c29 => False.elim (absurd c29 (by decide))) (fun c29 => ?_)
    refine go_iconst (v := nI 0) (q := 33) (gDec iX11_why_ok 16 rfl) (by decide) rfl ?_
    exact go_ireturn (gDec iX11_why_ok 17 rfl) rfl rfl rfl (congrArg (gPut σ 376 5) xc_O_O) (by decide)

set_option maxHeartbeats 4000000 in
set_option maxRecDepth 100000 in
theorem ctX11_stem {κ : gK} {σ τ : gST} {g s y : Int32} (hC : gCI τ) (hM : gMR τ (σ.1 377)) : gCt κ mX11_stem 9 [.ref (κ.2.1 + 376), .int g, .int s, .int y] σ (rI (aI (fStem τ g s y).1)) (gPut σ 376 5 (xC kO (fStem τ g s y).1)) 0 := by
  have hW := hC.dw
  have h24 := hW.ng24
  refine ct_of (by decide +kernel) rfl (Nat.le_of_ble_eq_true rfl) rfl ?_
  by_cases h1 : gInT τ g s
  · have hs : fStem τ g s y = _ := if_pos h1
    rw [hs]
    obtain ⟨i, j, hi, hj, rfl, rfl⟩ := gInT.ex hW h1
    have h4 := hW.ns4 (g := i) (by omega)
    rw [nA_nI (n := i) (by omega), nA_nI (n := j) (by omega)]
    by_cases h2 : y = 0
    · rw [if_pos h2]
      refine go_aload_n (q := 1) (gDec iX11_stem_ok 0 rfl) rfl rfl rfl ?_
      refine go_aload_n (q := 2) (gDec iX11_stem_ok 1 rfl) rfl rfl rfl ?_
      refine go_iload_n (q := 3) (gDec iX11_stem_ok 2 rfl) rfl rfl rfl ?_
      refine go_iload_n (q := 4) (gDec iX11_stem_ok 3 rfl) rfl rfl rfl ?_
      refine go_callV (n2 := 0) (q := 7) kX11_175 (ctX11_isStem (τ := τ) hW hM) (gDec iX11_stem_ok 4 rfl) rfl rfl (by decide) rfl rfl rfl (Nat.le_of_ble_eq_true rfl) rfl (gFit_rm (by decide) (by decide)) rfl ?_
      refine go_top (v' := 1) (if_pos h1) ?_
      refine go_if_eq (t := 14) (q := 10) (gDec iX11_stem_ok 5 rfl) (by decide) rfl (fun c7 => False.elim (absurd c7 (by decide))) (fun c7 => ?_)
      refine go_iconst (v := nI 0) (q := 11) (gDec iX11_stem_ok 6 rfl) (by decide) rfl ?_
      refine go_goto (t := 15) (gDec iX11_stem_ok 7 rfl) (by decide) ?_
      refine go_puti (q := 18) fX11_54 gft11 (gDec iX11_stem_ok 9 rfl) rfl (by decide) rfl rfl rfl rfl ?_
      refine go_aload_n (q := 19) (gDec iX11_stem_ok 10 rfl) rfl rfl rfl ?_
      refine go_geti (q := 22) fX11_54 (gDec iX11_stem_ok 11 rfl) rfl (by decide) rfl ?_
      refine go_top (v' := nI 0) rfl ?_
      refine go_if_le (t := 29) (q := 25) (gDec iX11_stem_ok 12 rfl) (by decide) rfl (fun c22 => ?_) (fun c22 => False.elim (c22 (by decide)))
      refine go_aload_n (q := 30) (gDec iX11_stem_ok 15 rfl) rfl rfl rfl ?_
      refine go_iload_n (q := 31) (gDec iX11_stem_ok 16 rfl) rfl rfl rfl ?_
      refine go_bipush (v := nI 88) (q := 33) (gDec iX11_stem_ok 17 rfl) (by decide) rfl ?_
      refine go_iconst (v := nI 2) (q := 34) (gDec iX11_stem_ok 18 rfl) (by decide) rfl ?_
      refine go_iload_n (q := 35) (gDec iX11_stem_ok 19 rfl) rfl rfl rfl ?_
      refine go_imulN (c := 2 * j) (q := 36) (gDec iX11_stem_ok 20 rfl) rfl rfl ?_
      refine go_iaddN (c := 88 + (2 * j)) (q := 37) (gDec iX11_stem_ok 21 rfl) rfl rfl ?_
      refine go_iload_n (q := 38) (gDec iX11_stem_ok 22 rfl) rfl rfl rfl ?_
      refine go_if_eq (t := 45) (q := 41) (gDec iX11_stem_ok 23 rfl) (by decide) rfl (fun c38 => ?_) (fun c38 => False.elim (c38 h2))
      refine go_iconst (v := nI 0) (q := 46) (gDec iX11_stem_ok 26 rfl) (by decide) rfl ?_
      refine go_iaddN (c := 88 + (2 * j) + 0) (q := 47) (gDec iX11_stem_ok 27 rfl) rfl rfl ?_
      refine go_callV (n2 := 0) (q := 50) kX11_69 (ctX11_of (g := i) (w := 88 + (2 * j) + 0) (by omega)) (gDec iX11_stem_ok 28 rfl) rfl rfl (by decide) rfl rfl rfl (Nat.le_of_ble_eq_true rfl) rfl (gFit_rm (by decide) (by decide)) rfl ?_
      refine go_top (v' := τ.1 33 (i * 4 + j)) ((gMRt hM).sl hi hj rfl) ?_
      exact go_ireturn (gDec iX11_stem_ok 29 rfl) rfl rfl rfl rfl (by decide)
    · rw [if_neg h2]
      refine go_aload_n (q := 1) (gDec iX11_stem_ok 0 rfl) rfl rfl rfl ?_
      refine go_aload_n (q := 2) (gDec iX11_stem_ok 1 rfl) rfl rfl rfl ?_
      refine go_iload_n (q := 3) (gDec iX11_stem_ok 2 rfl) rfl rfl rfl ?_
      refine go_iload_n (q := 4) (gDec iX11_stem_ok 3 rfl) rfl rfl rfl ?_
      refine go_callV (n2 := 0) (q := 7) kX11_175 (ctX11_isStem (τ := τ) hW hM) (gDec iX11_stem_ok 4 rfl) rfl rfl (by decide) rfl rfl rfl (Nat.le_of_ble_eq_true rfl) rfl (gFit_rm (by decide) (by decide)) rfl ?_
      refine go_top (v' := 1) (if_pos h1) ?_
      refine go_if_eq (t := 14) (q := 10) (gDec iX11_stem_ok 5 rfl) (by decide) rfl (fun c7 => False.elim (absurd c7 (by decide))) (fun c7 => ?_)
      refine go_iconst (v := nI 0) (q := 11) (gDec iX11_stem_ok 6 rfl) (by decide) rfl ?_
      refine go_goto (t := 15) (gDec iX11_stem_ok 7 rfl) (by decide) ?_
      refine go_puti (q := 18) fX11_54 gft11 (gDec iX11_stem_ok 9 rfl) rfl (by decide) rfl rfl rfl rfl ?_
      refine go_aload_n (q := 19) (gDec iX11_stem_ok 10 rfl) rfl rfl rfl ?_
      refine go_geti (q := 22) fX11_54 (gDec iX11_stem_ok 11 rfl) rfl (by decide) rfl ?_
      refine go_top (v' := nI 0) rfl ?_
      refine go_if_le (t := 29) (q := 25) (gDec iX11_stem_ok 12 rfl) (by decide) rfl (fun c22 => ?_) (fun c22 => False.elim (c22 (by decide)))
      refine go_aload_n (q := 30) (gDec iX11_stem_ok 15 rfl) rfl rfl rfl ?_
      refine go_iload_n (q := 31) (gDec iX11_stem_ok 16 rfl) rfl rfl rfl ?_
      refine go_bipush (v := nI 88) (q := 33) (gDec iX11_stem_ok 17 rfl) (by decide) rfl ?_
      refine go_iconst (v := nI 2) (q := 34) (gDec iX11_stem_ok 18 rfl) (by decide) rfl ?_
      refine go_iload_n (q := 35) (gDec iX11_stem_ok 19 rfl) rfl rfl rfl ?_
      refine go_imulN (c := 2 * j) (q := 36) (gDec iX11_stem_ok 20 rfl) rfl rfl ?_
      refine go_iaddN (c := 88 + (2 * j)) (q := 37) (gDec iX11_stem_ok 21 rfl) rfl rfl ?_
      refine go_iload_n (q := 38) (gDec iX11_stem_ok 22 rfl) rfl rfl rfl ?_
      refine go_if_eq (t := 45) (q := 41) (gDec iX11_stem_ok 23 rfl) (by decide) rfl (fun c38 => False.elim (h2 c38)) (fun c38 => ?_)
      refine go_iconst (v := nI 1) (q := 42) (gDec iX11_stem_ok 24 rfl) (by decide) rfl ?_
      refine go_goto (t := 46) (gDec iX11_stem_ok 25 rfl) (by decide) ?_
      refine go_iaddN (c := 88 + (2 * j) + 1) (q := 47) (gDec iX11_stem_ok 27 rfl) rfl rfl ?_
      refine go_callV (n2 := 0) (q := 50) kX11_69 (ctX11_of (g := i) (w := 88 + (2 * j) + 1) (by omega)) (gDec iX11_stem_ok 28 rfl) rfl rfl (by decide) rfl rfl rfl (Nat.le_of_ble_eq_true rfl) rfl (gFit_rm (by decide) (by decide)) rfl ?_
      refine go_top (v' := τ.1 35 (i * 4 + j)) ((gMRt hM).sr hi hj rfl) ?_
      exact go_ireturn (gDec iX11_stem_ok 29 rfl) rfl rfl rfl rfl (by decide)
  · rw [show fStem τ g s y = _ from if_neg h1]
    refine go_aload_n (q := 1) (gDec iX11_stem_ok 0 rfl) rfl rfl rfl ?_
    refine go_aload_n (q := 2) (gDec iX11_stem_ok 1 rfl) rfl rfl rfl ?_
    refine go_iload_n (q := 3) (gDec iX11_stem_ok 2 rfl) rfl rfl rfl ?_
    refine go_iload_n (q := 4) (gDec iX11_stem_ok 3 rfl) rfl rfl rfl ?_
    refine go_callV (n2 := 0) (q := 7) kX11_175 (ctX11_isStem (τ := τ) hW hM) (gDec iX11_stem_ok 4 rfl) rfl rfl (by decide) rfl rfl rfl (Nat.le_of_ble_eq_true rfl) rfl (gFit_rm (by decide) (by decide)) rfl ?_
    refine go_top (v' := 0) (if_neg h1) ?_
    refine go_if_eq (t := 14) (q := 10) (gDec iX11_stem_ok 5 rfl) (by decide) rfl (fun c7 => ?_) (fun c7 => False.elim (c7 rfl))
    refine go_iconst (v := nI 1) (q := 15) (gDec iX11_stem_ok 8 rfl) (by decide) rfl ?_
    refine go_puti (q := 18) fX11_54 gft11 (gDec iX11_stem_ok 9 rfl) rfl (by decide) rfl rfl rfl rfl ?_
    refine go_aload_n (q := 19) (gDec iX11_stem_ok 10 rfl) rfl rfl rfl ?_
    refine go_geti (q := 22) fX11_54 (gDec iX11_stem_ok 11 rfl) rfl (by decide) rfl ?_
    refine go_top (v' := nI 1) rfl ?_
    refine go_if_le (t := 29) (q := 25) (gDec iX11_stem_ok 12 rfl) (by decide) rfl (fun c22 => False.elim (absurd c22 (by decide))) (fun c22 => ?_)
    refine go_iconst (v := nI 0) (q := 26) (gDec iX11_stem_ok 13 rfl) (by decide) rfl ?_
    refine go_goto (t := 50) (gDec iX11_stem_ok 14 rfl) (by decide) ?_
    exact go_ireturn (gDec iX11_stem_ok 29 rfl) rfl rfl rfl (congrArg (gPut σ 376 5) xc_O_O) (by decide)

set_option maxHeartbeats 4000000 in
set_option maxRecDepth 100000 in
theorem ctX11_place {κ : gK} {σ τ : gST} {g z v : Int32} (hC : gCI τ) (hM : gMR τ (σ.1 377)) : gCt κ mX11_place 9 [.ref (κ.2.1 + 376), .int g, .int z, .int v] σ (rI (aI (fPlace τ g z v).1)) (gPut σ 376 5 (xC kOA (fPlace τ g z v).1)) 0 := by
  have hW := hC.dw
  have h24 := hW.ng24
  refine ct_of (by decide +kernel) rfl (Nat.le_of_ble_eq_true rfl) rfl ?_
  by_cases h1 : gInG τ g
  · have hs : fPlace τ g z v = _ := if_pos h1
    rw [hs]
    obtain ⟨i, hi, rfl⟩ := gInG.ex h1
    rw [nA_nI (n := i) (by omega)]
    by_cases h2 : 6 ≤ z.toInt ∧ z.toInt ≤ 60
    · by_cases h3 : -1000 ≤ v.toInt ∧ v.toInt ≤ 2000
      · rw [if_pos ⟨h2, h3⟩]
        refine go_aload_n (q := 1) (gDec iX11_place_ok 0 rfl) rfl rfl rfl ?_
        refine go_aload_n (q := 2) (gDec iX11_place_ok 1 rfl) rfl rfl rfl ?_
        refine go_iload_n (q := 3) (gDec iX11_place_ok 2 rfl) rfl rfl rfl ?_
        refine go_callV (n2 := 0) (q := 6) kX11_65 (ctX11_isGlyph (τ := τ) hW hM) (gDec iX11_place_ok 3 rfl) rfl rfl (by decide) rfl rfl rfl (Nat.le_of_ble_eq_true rfl) rfl (gFit_rm (by decide) (by decide)) rfl ?_
        refine go_top (v' := 1) (gWi_t (by (try rw [i2l_toInt]); exact h1)) ?_
        refine go_if_ne (t := 13) (q := 9) (gDec iX11_place_ok 4 rfl) (by decide) rfl (fun c6 => ?_) (fun c6 => False.elim (absurd c6 (by decide)))
        refine go_iload_n (q := 14) (gDec iX11_place_ok 7 rfl) rfl rfl rfl ?_
        refine go_i2l (q := 15) (gDec iX11_place_ok 8 rfl) rfl ?_
        refine go_bipush (v := nI 6) (q := 17) (gDec iX11_place_ok 9 rfl) (by decide) rfl ?_
        refine go_bipush (v := nI 60) (q := 19) (gDec iX11_place_ok 10 rfl) (by decide) rfl ?_
        refine go_callS (n2 := 0) (q := 22) kX11_57 ctX11_in (gDec iX11_place_ok 11 rfl) rfl rfl (Nat.le_of_ble_eq_true rfl) rfl (gFit_rm (by decide) (by decide)) rfl ?_
        refine go_top (v' := 1) (gWi_t (by (try rw [i2l_toInt]); exact h2)) ?_
        refine go_if_eq (t := 39) (q := 25) (gDec iX11_place_ok 12 rfl) (by decide) rfl (fun c22 => False.elim (absurd c22 (by decide))) (fun c22 => ?_)
        refine go_iload_n (q := 26) (gDec iX11_place_ok 13 rfl) rfl rfl rfl ?_
        refine go_i2l (q := 27) (gDec iX11_place_ok 14 rfl) rfl ?_
        refine go_sipush (v := (-1000)) (q := 30) (gDec iX11_place_ok 15 rfl) (by decide) rfl ?_
        refine go_sipush (v := nI 2000) (q := 33) (gDec iX11_place_ok 16 rfl) (by decide) rfl ?_
        refine go_callS (n2 := 0) (q := 36) kX11_57 ctX11_in (gDec iX11_place_ok 17 rfl) rfl rfl (Nat.le_of_ble_eq_true rfl) rfl (gFit_rm (by decide) (by decide)) rfl ?_
        refine go_top (v' := 1) (gWi_t (by (try rw [i2l_toInt]); exact h3)) ?_
        refine go_if_ne (t := 43) (q := 39) (gDec iX11_place_ok 18 rfl) (by decide) rfl (fun c36 => ?_) (fun c36 => False.elim (absurd c36 (by decide)))
        refine go_iconst (v := nI 0) (q := 44) (gDec iX11_place_ok 21 rfl) (by decide) rfl ?_
        refine go_puti (q := 47) fX11_54 gft11 (gDec iX11_place_ok 22 rfl) rfl (by decide) rfl rfl rfl rfl ?_
        refine go_aload_n (q := 48) (gDec iX11_place_ok 23 rfl) rfl rfl rfl ?_
        refine go_geti (q := 51) fX11_54 (gDec iX11_place_ok 24 rfl) rfl (by decide) rfl ?_
        refine go_top (v' := nI 0) rfl ?_
        refine go_if_le (t := 58) (q := 54) (gDec iX11_place_ok 25 rfl) (by decide) rfl (fun c51 => ?_) (fun c51 => False.elim (c51 (by decide)))
        refine go_aload_n (q := 59) (gDec iX11_place_ok 28 rfl) rfl rfl rfl ?_
        refine go_iload_n (q := 60) (gDec iX11_place_ok 29 rfl) rfl rfl rfl ?_
        refine go_iload_n (q := 61) (gDec iX11_place_ok 30 rfl) rfl rfl rfl ?_
        refine go_iload_n (q := 62) (gDec iX11_place_ok 31 rfl) rfl rfl rfl ?_
        refine go_callV (n2 := 0) (q := 65) kX11_184 (ctX11_placeOf (τ := τ) hC (gMRt hM) hi h2 h3) (gDec iX11_place_ok 32 rfl) rfl rfl (by decide) rfl rfl rfl (Nat.le_of_ble_eq_true rfl) rfl (gFit_rm (by decide) (by decide)) rfl ?_
        exact go_ireturn (gDec iX11_place_ok 33 rfl) rfl rfl rfl rfl (by decide)
      · rw [if_neg (fun h9 => h3 h9.2)]
        refine go_aload_n (q := 1) (gDec iX11_place_ok 0 rfl) rfl rfl rfl ?_
        refine go_aload_n (q := 2) (gDec iX11_place_ok 1 rfl) rfl rfl rfl ?_
        refine go_iload_n (q := 3) (gDec iX11_place_ok 2 rfl) rfl rfl rfl ?_
        refine go_callV (n2 := 0) (q := 6) kX11_65 (ctX11_isGlyph (τ := τ) hW hM) (gDec iX11_place_ok 3 rfl) rfl rfl (by decide) rfl rfl rfl (Nat.le_of_ble_eq_true rfl) rfl (gFit_rm (by decide) (by decide)) rfl ?_
        refine go_top (v' := 1) (gWi_t (by (try rw [i2l_toInt]); exact h1)) ?_
        refine go_if_ne (t := 13) (q := 9) (gDec iX11_place_ok 4 rfl) (by decide) rfl (fun c6 => ?_) (fun c6 => False.elim (absurd c6 (by decide)))
        refine go_iload_n (q := 14) (gDec iX11_place_ok 7 rfl) rfl rfl rfl ?_
        refine go_i2l (q := 15) (gDec iX11_place_ok 8 rfl) rfl ?_
        refine go_bipush (v := nI 6) (q := 17) (gDec iX11_place_ok 9 rfl) (by decide) rfl ?_
        refine go_bipush (v := nI 60) (q := 19) (gDec iX11_place_ok 10 rfl) (by decide) rfl ?_
        refine go_callS (n2 := 0) (q := 22) kX11_57 ctX11_in (gDec iX11_place_ok 11 rfl) rfl rfl (Nat.le_of_ble_eq_true rfl) rfl (gFit_rm (by decide) (by decide)) rfl ?_
        refine go_top (v' := 1) (gWi_t (by (try rw [i2l_toInt]); exact h2)) ?_
        refine go_if_eq (t := 39) (q := 25) (gDec iX11_place_ok 12 rfl) (by decide) rfl (fun c22 => False.elim (absurd c22 (by decide))) (fun c22 => ?_)
        refine go_iload_n (q := 26) (gDec iX11_place_ok 13 rfl) rfl rfl rfl ?_
        refine go_i2l (q := 27) (gDec iX11_place_ok 14 rfl) rfl ?_
        refine go_sipush (v := (-1000)) (q := 30) (gDec iX11_place_ok 15 rfl) (by decide) rfl ?_
        refine go_sipush (v := nI 2000) (q := 33) (gDec iX11_place_ok 16 rfl) (by decide) rfl ?_
        refine go_callS (n2 := 0) (q := 36) kX11_57 ctX11_in (gDec iX11_place_ok 17 rfl) rfl rfl (Nat.le_of_ble_eq_true rfl) rfl (gFit_rm (by decide) (by decide)) rfl ?_
        refine go_top (v' := 0) (gWi_f (by (try rw [i2l_toInt]); exact h3)) ?_
        refine go_if_ne (t := 43) (q := 39) (gDec iX11_place_ok 18 rfl) (by decide) rfl (fun c36 => False.elim (c36 rfl)) (fun c36 => ?_)
        refine go_iconst (v := nI 2) (q := 40) (gDec iX11_place_ok 19 rfl) (by decide) rfl ?_
        refine go_goto (t := 44) (gDec iX11_place_ok 20 rfl) (by decide) ?_
        refine go_puti (q := 47) fX11_54 gft11 (gDec iX11_place_ok 22 rfl) rfl (by decide) rfl rfl rfl rfl ?_
        refine go_aload_n (q := 48) (gDec iX11_place_ok 23 rfl) rfl rfl rfl ?_
        refine go_geti (q := 51) fX11_54 (gDec iX11_place_ok 24 rfl) rfl (by decide) rfl ?_
        refine go_top (v' := nI 2) rfl ?_
        refine go_if_le (t := 58) (q := 54) (gDec iX11_place_ok 25 rfl) (by decide) rfl (fun c51 => False.elim (absurd c51 (by decide))) (fun c51 => ?_)
        refine go_iconst (v := nI 0) (q := 55) (gDec iX11_place_ok 26 rfl) (by decide) rfl ?_
        refine go_goto (t := 65) (gDec iX11_place_ok 27 rfl) (by decide) ?_
        exact go_ireturn (gDec iX11_place_ok 33 rfl) rfl rfl rfl (congrArg (gPut σ 376 5) xc_OA_A) (by decide)
    · rw [if_neg (fun h9 => h2 h9.1)]
      refine go_aload_n (q := 1) (gDec iX11_place_ok 0 rfl) rfl rfl rfl ?_
      refine go_aload_n (q := 2) (gDec iX11_place_ok 1 rfl) rfl rfl rfl ?_
      refine go_iload_n (q := 3) (gDec iX11_place_ok 2 rfl) rfl rfl rfl ?_
      refine go_callV (n2 := 0) (q := 6) kX11_65 (ctX11_isGlyph (τ := τ) hW hM) (gDec iX11_place_ok 3 rfl) rfl rfl (by decide) rfl rfl rfl (Nat.le_of_ble_eq_true rfl) rfl (gFit_rm (by decide) (by decide)) rfl ?_
      refine go_top (v' := 1) (gWi_t (by (try rw [i2l_toInt]); exact h1)) ?_
      refine go_if_ne (t := 13) (q := 9) (gDec iX11_place_ok 4 rfl) (by decide) rfl (fun c6 => ?_) (fun c6 => False.elim (absurd c6 (by decide)))
      refine go_iload_n (q := 14) (gDec iX11_place_ok 7 rfl) rfl rfl rfl ?_
      refine go_i2l (q := 15) (gDec iX11_place_ok 8 rfl) rfl ?_
      refine go_bipush (v := nI 6) (q := 17) (gDec iX11_place_ok 9 rfl) (by decide) rfl ?_
      refine go_bipush (v := nI 60) (q := 19) (gDec iX11_place_ok 10 rfl) (by decide) rfl ?_
      refine go_callS (n2 := 0) (q := 22) kX11_57 ctX11_in (gDec iX11_place_ok 11 rfl) rfl rfl (Nat.le_of_ble_eq_true rfl) rfl (gFit_rm (by decide) (by decide)) rfl ?_
      refine go_top (v' := 0) (gWi_f (by (try rw [i2l_toInt]); exact h2)) ?_
      refine go_if_eq (t := 39) (q := 25) (gDec iX11_place_ok 12 rfl) (by decide) rfl (fun c22 => ?_) (fun c22 => False.elim (c22 rfl))
      refine go_iconst (v := nI 2) (q := 40) (gDec iX11_place_ok 19 rfl) (by decide) rfl ?_
      refine go_goto (t := 44) (gDec iX11_place_ok 20 rfl) (by decide) ?_
      refine go_puti (q := 47) fX11_54 gft11 (gDec iX11_place_ok 22 rfl) rfl (by decide) rfl rfl rfl rfl ?_
      refine go_aload_n (q := 48) (gDec iX11_place_ok 23 rfl) rfl rfl rfl ?_
      refine go_geti (q := 51) fX11_54 (gDec iX11_place_ok 24 rfl) rfl (by decide) rfl ?_
      refine go_top (v' := nI 2) rfl ?_
      refine go_if_le (t := 58) (q := 54) (gDec iX11_place_ok 25 rfl) (by decide) rfl (fun c51 => False.elim (absurd c51 (by decide))) (fun c51 => ?_)
      refine go_iconst (v := nI 0) (q := 55) (gDec iX11_place_ok 26 rfl) (by decide) rfl ?_
      refine go_goto (t := 65) (gDec iX11_place_ok 27 rfl) (by decide) ?_
      exact go_ireturn (gDec iX11_place_ok 33 rfl) rfl rfl rfl (congrArg (gPut σ 376 5) xc_OA_A) (by decide)
  · rw [show fPlace τ g z v = _ from if_neg h1]
    refine go_aload_n (q := 1) (gDec iX11_place_ok 0 rfl) rfl rfl rfl ?_
    refine go_aload_n (q := 2) (gDec iX11_place_ok 1 rfl) rfl rfl rfl ?_
    refine go_iload_n (q := 3) (gDec iX11_place_ok 2 rfl) rfl rfl rfl ?_
    refine go_callV (n2 := 0) (q := 6) kX11_65 (ctX11_isGlyph (τ := τ) hW hM) (gDec iX11_place_ok 3 rfl) rfl rfl (by decide) rfl rfl rfl (Nat.le_of_ble_eq_true rfl) rfl (gFit_rm (by decide) (by decide)) rfl ?_
    refine go_top (v' := 0) (gWi_f (by (try rw [i2l_toInt]); exact h1)) ?_
    refine go_if_ne (t := 13) (q := 9) (gDec iX11_place_ok 4 rfl) (by decide) rfl (fun c6 => False.elim (c6 rfl)) (fun c6 => ?_)
    refine go_iconst (v := nI 1) (q := 10) (gDec iX11_place_ok 5 rfl) (by decide) rfl ?_
    refine go_goto (t := 44) (gDec iX11_place_ok 6 rfl) (by decide) ?_
    refine go_puti (q := 47) fX11_54 gft11 (gDec iX11_place_ok 22 rfl) rfl (by decide) rfl rfl rfl rfl ?_
    refine go_aload_n (q := 48) (gDec iX11_place_ok 23 rfl) rfl rfl rfl ?_
    refine go_geti (q := 51) fX11_54 (gDec iX11_place_ok 24 rfl) rfl (by decide) rfl ?_
    refine go_top (v' := nI 1) rfl ?_
    refine go_if_le (t := 58) (q := 54) (gDec iX11_place_ok 25 rfl) (by decide) rfl (fun c51 => False.elim (absurd c51 (by decide))) (fun c51 => ?_)
    refine go_iconst (v := nI 0) (q := 55) (gDec iX11_place_ok 26 rfl) (by decide) rfl ?_
    refine go_goto (t := 65) (gDec iX11_place_ok 27 rfl) (by decide) ?_
    exact go_ireturn (gDec iX11_place_ok 33 rfl) rfl rfl rfl (congrArg (gPut σ 376 5) xc_OA_O) (by decide)

set_option maxHeartbeats 4000000 in
set_option maxRecDepth 100000 in
theorem ctX11_glyph {κ : gK} {σ τ : gST} {g w : Int32} (hC : gCI τ) (hM : gMR τ (σ.1 377)) : gCt κ mX11_glyph 9 [.ref (κ.2.1 + 376), .int g, .int w] σ (rI (aI (fGlyph τ g w).1)) (gPut σ 376 5 (xC kOA (fGlyph τ g w).1)) 0 := by
  have hW := hC.dw
  have h24 := hW.ng24
  refine ct_of (by decide +kernel) rfl (Nat.le_of_ble_eq_true rfl) rfl ?_
  by_cases h1 : gInG τ g
  · have hs : fGlyph τ g w = _ := if_pos h1
    rw [hs]
    obtain ⟨i, hi, rfl⟩ := gInG.ex h1
    have hEd : 0 < gNc τ i → 0 < gNp τ i 0 := fun h => Nat.lt_of_lt_of_le (by decide) (hC.po.1 i 0 hi h)
    rw [nA_nI (n := i) (by omega)]
    by_cases h2 : 0 ≤ w.toInt ∧ w.toInt ≤ 9
    · rw [if_pos h2]
      obtain ⟨k, hk, rfl⟩ := gIn_ex (n := 10) (show 0 ≤ w.toInt ∧ w.toInt ≤ ((10 : Nat) : Int) - 1 from h2)
      rw [nA_nI (n := k) (by omega)]
      rcases (by omega : k = 0 ∨ k = 1 ∨ k = 2 ∨ k = 3 ∨ k = 4 ∨ k = 5 ∨ k = 6 ∨ k = 7 ∨ k = 8 ∨ k = 9) with h9 | h9 | h9 | h9 | h9 | h9 | h9 | h9 | h9 | h9 <;> subst h9
      · skip
        refine go_aload_n (q := 1) (gDec iX11_glyph_ok 0 rfl) rfl rfl rfl ?_
        refine go_aload_n (q := 2) (gDec iX11_glyph_ok 1 rfl) rfl rfl rfl ?_
        refine go_iload_n (q := 3) (gDec iX11_glyph_ok 2 rfl) rfl rfl rfl ?_
        refine go_callV (n2 := 0) (q := 6) kX11_65 (ctX11_isGlyph (τ := τ) hW hM) (gDec iX11_glyph_ok 3 rfl) rfl rfl (by decide) rfl rfl rfl (Nat.le_of_ble_eq_true rfl) rfl (gFit_rm (by decide) (by decide)) rfl ?_
        refine go_top (v' := 1) (gWi_t (by (try rw [i2l_toInt]); exact h1)) ?_
        refine go_if_ne (t := 13) (q := 9) (gDec iX11_glyph_ok 4 rfl) (by decide) rfl (fun c6 => ?_) (fun c6 => False.elim (absurd c6 (by decide)))
        refine go_iload_n (q := 14) (gDec iX11_glyph_ok 7 rfl) rfl rfl rfl ?_
        refine go_i2l (q := 15) (gDec iX11_glyph_ok 8 rfl) rfl ?_
        refine go_iconst (v := nI 0) (q := 16) (gDec iX11_glyph_ok 9 rfl) (by decide) rfl ?_
        refine go_bipush (v := nI 9) (q := 18) (gDec iX11_glyph_ok 10 rfl) (by decide) rfl ?_
        refine go_callS (n2 := 0) (q := 21) kX11_57 ctX11_in (gDec iX11_glyph_ok 11 rfl) rfl rfl (Nat.le_of_ble_eq_true rfl) rfl (gFit_rm (by decide) (by decide)) rfl ?_
        refine go_top (v' := 1) (gWi_t (by (try rw [i2l_toInt]); exact h2)) ?_
        refine go_if_ne (t := 28) (q := 24) (gDec iX11_glyph_ok 12 rfl) (by decide) rfl (fun c21 => ?_) (fun c21 => False.elim (absurd c21 (by decide)))
        refine go_iconst (v := nI 0) (q := 29) (gDec iX11_glyph_ok 15 rfl) (by decide) rfl ?_
        refine go_puti (q := 32) fX11_54 gft11 (gDec iX11_glyph_ok 16 rfl) rfl (by decide) rfl rfl rfl rfl ?_
        refine go_aload_n (q := 33) (gDec iX11_glyph_ok 17 rfl) rfl rfl rfl ?_
        refine go_geti (q := 36) fX11_54 (gDec iX11_glyph_ok 18 rfl) rfl (by decide) rfl ?_
        refine go_top (v' := nI 0) rfl ?_
        refine go_if_le (t := 41) (q := 39) (gDec iX11_glyph_ok 19 rfl) (by decide) rfl (fun c36 => ?_) (fun c36 => False.elim (c36 (by decide)))
        refine go_iload_n (q := 42) (gDec iX11_glyph_ok 22 rfl) rfl rfl rfl ?_
        refine go_tableIn (off := 50) (t := 92) (gDec iX11_glyph_ok 23 rfl) (by decide) (by decide) rfl (by decide) ?_
        refine go_aload_n (q := 93) (gDec iX11_glyph_ok 24 rfl) rfl rfl rfl ?_
        refine go_iload_n (q := 94) (gDec iX11_glyph_ok 25 rfl) rfl rfl rfl ?_
        refine go_iconst (v := nI 0) (q := 95) (gDec iX11_glyph_ok 26 rfl) (by decide) rfl ?_
        refine go_callV (n2 := 0) (q := 98) kX11_69 (ctX11_of (g := i) (w := 0) (by omega)) (gDec iX11_glyph_ok 27 rfl) rfl rfl (by decide) rfl rfl rfl (Nat.le_of_ble_eq_true rfl) rfl (gFit_rm (by decide) (by decide)) rfl ?_
        refine go_top (v' := τ.1 4 i) ((gMRt hM).code hi rfl) ?_
        exact go_ireturn (gDec iX11_glyph_ok 28 rfl) rfl rfl rfl rfl (by decide)
      · skip
        refine go_aload_n (q := 1) (gDec iX11_glyph_ok 0 rfl) rfl rfl rfl ?_
        refine go_aload_n (q := 2) (gDec iX11_glyph_ok 1 rfl) rfl rfl rfl ?_
        refine go_iload_n (q := 3) (gDec iX11_glyph_ok 2 rfl) rfl rfl rfl ?_
        refine go_callV (n2 := 0) (q := 6) kX11_65 (ctX11_isGlyph (τ := τ) hW hM) (gDec iX11_glyph_ok 3 rfl) rfl rfl (by decide) rfl rfl rfl (Nat.le_of_ble_eq_true rfl) rfl (gFit_rm (by decide) (by decide)) rfl ?_
        refine go_top (v' := 1) (gWi_t (by (try rw [i2l_toInt]); exact h1)) ?_
        refine go_if_ne (t := 13) (q := 9) (gDec iX11_glyph_ok 4 rfl) (by decide) rfl (fun c6 => ?_) (fun c6 => False.elim (absurd c6 (by decide)))
        refine go_iload_n (q := 14) (gDec iX11_glyph_ok 7 rfl) rfl rfl rfl ?_
        refine go_i2l (q := 15) (gDec iX11_glyph_ok 8 rfl) rfl ?_
        refine go_iconst (v := nI 0) (q := 16) (gDec iX11_glyph_ok 9 rfl) (by decide) rfl ?_
        refine go_bipush (v := nI 9) (q := 18) (gDec iX11_glyph_ok 10 rfl) (by decide) rfl ?_
        refine go_callS (n2 := 0) (q := 21) kX11_57 ctX11_in (gDec iX11_glyph_ok 11 rfl) rfl rfl (Nat.le_of_ble_eq_true rfl) rfl (gFit_rm (by decide) (by decide)) rfl ?_
        refine go_top (v' := 1) (gWi_t (by (try rw [i2l_toInt]); exact h2)) ?_
        refine go_if_ne (t := 28) (q := 24) (gDec iX11_glyph_ok 12 rfl) (by decide) rfl (fun c21 => ?_) (fun c21 => False.elim (absurd c21 (by decide)))
        refine go_iconst (v := nI 0) (q := 29) (gDec iX11_glyph_ok 15 rfl) (by decide) rfl ?_
        refine go_puti (q := 32) fX11_54 gft11 (gDec iX11_glyph_ok 16 rfl) rfl (by decide) rfl rfl rfl rfl ?_
        refine go_aload_n (q := 33) (gDec iX11_glyph_ok 17 rfl) rfl rfl rfl ?_
        refine go_geti (q := 36) fX11_54 (gDec iX11_glyph_ok 18 rfl) rfl (by decide) rfl ?_
        refine go_top (v' := nI 0) rfl ?_
        refine go_if_le (t := 41) (q := 39) (gDec iX11_glyph_ok 19 rfl) (by decide) rfl (fun c36 => ?_) (fun c36 => False.elim (c36 (by decide)))
        refine go_iload_n (q := 42) (gDec iX11_glyph_ok 22 rfl) rfl rfl rfl ?_
        refine go_tableIn (off := 57) (t := 99) (gDec iX11_glyph_ok 23 rfl) (by decide) (by decide) rfl (by decide) ?_
        refine go_aload_n (q := 100) (gDec iX11_glyph_ok 29 rfl) rfl rfl rfl ?_
        refine go_iload_n (q := 101) (gDec iX11_glyph_ok 30 rfl) rfl rfl rfl ?_
        refine go_iconst (v := nI 1) (q := 102) (gDec iX11_glyph_ok 31 rfl) (by decide) rfl ?_
        refine go_callV (n2 := 0) (q := 105) kX11_69 (ctX11_of (g := i) (w := 1) (by omega)) (gDec iX11_glyph_ok 32 rfl) rfl rfl (by decide) rfl rfl rfl (Nat.le_of_ble_eq_true rfl) rfl (gFit_rm (by decide) (by decide)) rfl ?_
        refine go_top (v' := τ.1 6 i) ((gMRt hM).nc0 hi rfl) ?_
        exact go_ireturn (gDec iX11_glyph_ok 33 rfl) rfl rfl rfl rfl (by decide)
      · skip
        refine go_aload_n (q := 1) (gDec iX11_glyph_ok 0 rfl) rfl rfl rfl ?_
        refine go_aload_n (q := 2) (gDec iX11_glyph_ok 1 rfl) rfl rfl rfl ?_
        refine go_iload_n (q := 3) (gDec iX11_glyph_ok 2 rfl) rfl rfl rfl ?_
        refine go_callV (n2 := 0) (q := 6) kX11_65 (ctX11_isGlyph (τ := τ) hW hM) (gDec iX11_glyph_ok 3 rfl) rfl rfl (by decide) rfl rfl rfl (Nat.le_of_ble_eq_true rfl) rfl (gFit_rm (by decide) (by decide)) rfl ?_
        refine go_top (v' := 1) (gWi_t (by (try rw [i2l_toInt]); exact h1)) ?_
        refine go_if_ne (t := 13) (q := 9) (gDec iX11_glyph_ok 4 rfl) (by decide) rfl (fun c6 => ?_) (fun c6 => False.elim (absurd c6 (by decide)))
        refine go_iload_n (q := 14) (gDec iX11_glyph_ok 7 rfl) rfl rfl rfl ?_
        refine go_i2l (q := 15) (gDec iX11_glyph_ok 8 rfl) rfl ?_
        refine go_iconst (v := nI 0) (q := 16) (gDec iX11_glyph_ok 9 rfl) (by decide) rfl ?_
        refine go_bipush (v := nI 9) (q := 18) (gDec iX11_glyph_ok 10 rfl) (by decide) rfl ?_
        refine go_callS (n2 := 0) (q := 21) kX11_57 ctX11_in (gDec iX11_glyph_ok 11 rfl) rfl rfl (Nat.le_of_ble_eq_true rfl) rfl (gFit_rm (by decide) (by decide)) rfl ?_
        refine go_top (v' := 1) (gWi_t (by (try rw [i2l_toInt]); exact h2)) ?_
        refine go_if_ne (t := 28) (q := 24) (gDec iX11_glyph_ok 12 rfl) (by decide) rfl (fun c21 => ?_) (fun c21 => False.elim (absurd c21 (by decide)))
        refine go_iconst (v := nI 0) (q := 29) (gDec iX11_glyph_ok 15 rfl) (by decide) rfl ?_
        refine go_puti (q := 32) fX11_54 gft11 (gDec iX11_glyph_ok 16 rfl) rfl (by decide) rfl rfl rfl rfl ?_
        refine go_aload_n (q := 33) (gDec iX11_glyph_ok 17 rfl) rfl rfl rfl ?_
        refine go_geti (q := 36) fX11_54 (gDec iX11_glyph_ok 18 rfl) rfl (by decide) rfl ?_
        refine go_top (v' := nI 0) rfl ?_
        refine go_if_le (t := 41) (q := 39) (gDec iX11_glyph_ok 19 rfl) (by decide) rfl (fun c36 => ?_) (fun c36 => False.elim (c36 (by decide)))
        refine go_iload_n (q := 42) (gDec iX11_glyph_ok 22 rfl) rfl rfl rfl ?_
        refine go_tableIn (off := 64) (t := 106) (gDec iX11_glyph_ok 23 rfl) (by decide) (by decide) rfl (by decide) ?_
        refine go_aload_n (q := 107) (gDec iX11_glyph_ok 34 rfl) rfl rfl rfl ?_
        refine go_iload_n (q := 108) (gDec iX11_glyph_ok 35 rfl) rfl rfl rfl ?_
        refine go_callV (n2 := 0) (q := 111) kX11_126 (ctX11_pointsOf (τ := τ) hW (gMRt hM) hi) (gDec iX11_glyph_ok 36 rfl) rfl rfl (by decide) rfl rfl rfl (Nat.le_of_ble_eq_true rfl) rfl (gFit_rm (by decide) (by decide)) rfl ?_
        exact go_ireturn (gDec iX11_glyph_ok 37 rfl) rfl rfl rfl rfl (by decide)
      · skip
        refine go_aload_n (q := 1) (gDec iX11_glyph_ok 0 rfl) rfl rfl rfl ?_
        refine go_aload_n (q := 2) (gDec iX11_glyph_ok 1 rfl) rfl rfl rfl ?_
        refine go_iload_n (q := 3) (gDec iX11_glyph_ok 2 rfl) rfl rfl rfl ?_
        refine go_callV (n2 := 0) (q := 6) kX11_65 (ctX11_isGlyph (τ := τ) hW hM) (gDec iX11_glyph_ok 3 rfl) rfl rfl (by decide) rfl rfl rfl (Nat.le_of_ble_eq_true rfl) rfl (gFit_rm (by decide) (by decide)) rfl ?_
        refine go_top (v' := 1) (gWi_t (by (try rw [i2l_toInt]); exact h1)) ?_
        refine go_if_ne (t := 13) (q := 9) (gDec iX11_glyph_ok 4 rfl) (by decide) rfl (fun c6 => ?_) (fun c6 => False.elim (absurd c6 (by decide)))
        refine go_iload_n (q := 14) (gDec iX11_glyph_ok 7 rfl) rfl rfl rfl ?_
        refine go_i2l (q := 15) (gDec iX11_glyph_ok 8 rfl) rfl ?_
        refine go_iconst (v := nI 0) (q := 16) (gDec iX11_glyph_ok 9 rfl) (by decide) rfl ?_
        refine go_bipush (v := nI 9) (q := 18) (gDec iX11_glyph_ok 10 rfl) (by decide) rfl ?_
        refine go_callS (n2 := 0) (q := 21) kX11_57 ctX11_in (gDec iX11_glyph_ok 11 rfl) rfl rfl (Nat.le_of_ble_eq_true rfl) rfl (gFit_rm (by decide) (by decide)) rfl ?_
        refine go_top (v' := 1) (gWi_t (by (try rw [i2l_toInt]); exact h2)) ?_
        refine go_if_ne (t := 28) (q := 24) (gDec iX11_glyph_ok 12 rfl) (by decide) rfl (fun c21 => ?_) (fun c21 => False.elim (absurd c21 (by decide)))
        refine go_iconst (v := nI 0) (q := 29) (gDec iX11_glyph_ok 15 rfl) (by decide) rfl ?_
        refine go_puti (q := 32) fX11_54 gft11 (gDec iX11_glyph_ok 16 rfl) rfl (by decide) rfl rfl rfl rfl ?_
        refine go_aload_n (q := 33) (gDec iX11_glyph_ok 17 rfl) rfl rfl rfl ?_
        refine go_geti (q := 36) fX11_54 (gDec iX11_glyph_ok 18 rfl) rfl (by decide) rfl ?_
        refine go_top (v' := nI 0) rfl ?_
        refine go_if_le (t := 41) (q := 39) (gDec iX11_glyph_ok 19 rfl) (by decide) rfl (fun c36 => ?_) (fun c36 => False.elim (c36 (by decide)))
        refine go_iload_n (q := 42) (gDec iX11_glyph_ok 22 rfl) rfl rfl rfl ?_
        refine go_tableIn (off := 70) (t := 112) (gDec iX11_glyph_ok 23 rfl) (by decide) (by decide) rfl (by decide) ?_
        refine go_aload_n (q := 113) (gDec iX11_glyph_ok 38 rfl) rfl rfl rfl ?_
        refine go_iload_n (q := 114) (gDec iX11_glyph_ok 39 rfl) rfl rfl rfl ?_
        refine go_iload_n (q := 115) (gDec iX11_glyph_ok 40 rfl) rfl rfl rfl ?_
        refine go_iconst (v := nI 3) (q := 116) (gDec iX11_glyph_ok 41 rfl) (by decide) rfl ?_
        refine go_icmp_ne (t := 123) (q := 119) (gDec iX11_glyph_ok 42 rfl) (by decide) rfl (fun c116 => False.elim (c116 rfl)) (fun c116 => ?_)
        refine go_iconst (v := nI 1) (q := 120) (gDec iX11_glyph_ok 43 rfl) (by decide) rfl ?_
        refine go_goto (t := 124) (gDec iX11_glyph_ok 44 rfl) (by decide) ?_
        refine go_callV (n2 := 0) (q := 127) kX11_119 (ctX11_edgel (τ := τ) hW (gMRt hM) hi) (gDec iX11_glyph_ok 46 rfl) rfl rfl (by decide) rfl rfl rfl (Nat.le_of_ble_eq_true rfl) rfl (gFit_rm (by decide) (by decide)) rfl ?_
        refine go_top (v' := gEx false (τ.1 10) (gNp τ i) i (gNc τ i)) (gEd_eq hEd) ?_
        exact go_ireturn (gDec iX11_glyph_ok 47 rfl) rfl rfl rfl rfl (by decide)
      · skip
        refine go_aload_n (q := 1) (gDec iX11_glyph_ok 0 rfl) rfl rfl rfl ?_
        refine go_aload_n (q := 2) (gDec iX11_glyph_ok 1 rfl) rfl rfl rfl ?_
        refine go_iload_n (q := 3) (gDec iX11_glyph_ok 2 rfl) rfl rfl rfl ?_
        refine go_callV (n2 := 0) (q := 6) kX11_65 (ctX11_isGlyph (τ := τ) hW hM) (gDec iX11_glyph_ok 3 rfl) rfl rfl (by decide) rfl rfl rfl (Nat.le_of_ble_eq_true rfl) rfl (gFit_rm (by decide) (by decide)) rfl ?_
        refine go_top (v' := 1) (gWi_t (by (try rw [i2l_toInt]); exact h1)) ?_
        refine go_if_ne (t := 13) (q := 9) (gDec iX11_glyph_ok 4 rfl) (by decide) rfl (fun c6 => ?_) (fun c6 => False.elim (absurd c6 (by decide)))
        refine go_iload_n (q := 14) (gDec iX11_glyph_ok 7 rfl) rfl rfl rfl ?_
        refine go_i2l (q := 15) (gDec iX11_glyph_ok 8 rfl) rfl ?_
        refine go_iconst (v := nI 0) (q := 16) (gDec iX11_glyph_ok 9 rfl) (by decide) rfl ?_
        refine go_bipush (v := nI 9) (q := 18) (gDec iX11_glyph_ok 10 rfl) (by decide) rfl ?_
        refine go_callS (n2 := 0) (q := 21) kX11_57 ctX11_in (gDec iX11_glyph_ok 11 rfl) rfl rfl (Nat.le_of_ble_eq_true rfl) rfl (gFit_rm (by decide) (by decide)) rfl ?_
        refine go_top (v' := 1) (gWi_t (by (try rw [i2l_toInt]); exact h2)) ?_
        refine go_if_ne (t := 28) (q := 24) (gDec iX11_glyph_ok 12 rfl) (by decide) rfl (fun c21 => ?_) (fun c21 => False.elim (absurd c21 (by decide)))
        refine go_iconst (v := nI 0) (q := 29) (gDec iX11_glyph_ok 15 rfl) (by decide) rfl ?_
        refine go_puti (q := 32) fX11_54 gft11 (gDec iX11_glyph_ok 16 rfl) rfl (by decide) rfl rfl rfl rfl ?_
        refine go_aload_n (q := 33) (gDec iX11_glyph_ok 17 rfl) rfl rfl rfl ?_
        refine go_geti (q := 36) fX11_54 (gDec iX11_glyph_ok 18 rfl) rfl (by decide) rfl ?_
        refine go_top (v' := nI 0) rfl ?_
        refine go_if_le (t := 41) (q := 39) (gDec iX11_glyph_ok 19 rfl) (by decide) rfl (fun c36 => ?_) (fun c36 => False.elim (c36 (by decide)))
        refine go_iload_n (q := 42) (gDec iX11_glyph_ok 22 rfl) rfl rfl rfl ?_
        refine go_tableIn (off := 70) (t := 112) (gDec iX11_glyph_ok 23 rfl) (by decide) (by decide) rfl (by decide) ?_
        refine go_aload_n (q := 113) (gDec iX11_glyph_ok 38 rfl) rfl rfl rfl ?_
        refine go_iload_n (q := 114) (gDec iX11_glyph_ok 39 rfl) rfl rfl rfl ?_
        refine go_iload_n (q := 115) (gDec iX11_glyph_ok 40 rfl) rfl rfl rfl ?_
        refine go_iconst (v := nI 3) (q := 116) (gDec iX11_glyph_ok 41 rfl) (by decide) rfl ?_
        refine go_icmp_ne (t := 123) (q := 119) (gDec iX11_glyph_ok 42 rfl) (by decide) rfl (fun c116 => ?_) (fun c116 => False.elim (absurd c116 (by decide)))
        refine go_iconst (v := nI 0) (q := 124) (gDec iX11_glyph_ok 45 rfl) (by decide) rfl ?_
        refine go_callV (n2 := 0) (q := 127) kX11_119 (ctX11_edgeg (τ := τ) hW (gMRt hM) hi) (gDec iX11_glyph_ok 46 rfl) rfl rfl (by decide) rfl rfl rfl (Nat.le_of_ble_eq_true rfl) rfl (gFit_rm (by decide) (by decide)) rfl ?_
        refine go_top (v' := gEx true (τ.1 10) (gNp τ i) i (gNc τ i)) (gEd_eq hEd) ?_
        exact go_ireturn (gDec iX11_glyph_ok 47 rfl) rfl rfl rfl rfl (by decide)
      · skip
        refine go_aload_n (q := 1) (gDec iX11_glyph_ok 0 rfl) rfl rfl rfl ?_
        refine go_aload_n (q := 2) (gDec iX11_glyph_ok 1 rfl) rfl rfl rfl ?_
        refine go_iload_n (q := 3) (gDec iX11_glyph_ok 2 rfl) rfl rfl rfl ?_
        refine go_callV (n2 := 0) (q := 6) kX11_65 (ctX11_isGlyph (τ := τ) hW hM) (gDec iX11_glyph_ok 3 rfl) rfl rfl (by decide) rfl rfl rfl (Nat.le_of_ble_eq_true rfl) rfl (gFit_rm (by decide) (by decide)) rfl ?_
        refine go_top (v' := 1) (gWi_t (by (try rw [i2l_toInt]); exact h1)) ?_
        refine go_if_ne (t := 13) (q := 9) (gDec iX11_glyph_ok 4 rfl) (by decide) rfl (fun c6 => ?_) (fun c6 => False.elim (absurd c6 (by decide)))
        refine go_iload_n (q := 14) (gDec iX11_glyph_ok 7 rfl) rfl rfl rfl ?_
        refine go_i2l (q := 15) (gDec iX11_glyph_ok 8 rfl) rfl ?_
        refine go_iconst (v := nI 0) (q := 16) (gDec iX11_glyph_ok 9 rfl) (by decide) rfl ?_
        refine go_bipush (v := nI 9) (q := 18) (gDec iX11_glyph_ok 10 rfl) (by decide) rfl ?_
        refine go_callS (n2 := 0) (q := 21) kX11_57 ctX11_in (gDec iX11_glyph_ok 11 rfl) rfl rfl (Nat.le_of_ble_eq_true rfl) rfl (gFit_rm (by decide) (by decide)) rfl ?_
        refine go_top (v' := 1) (gWi_t (by (try rw [i2l_toInt]); exact h2)) ?_
        refine go_if_ne (t := 28) (q := 24) (gDec iX11_glyph_ok 12 rfl) (by decide) rfl (fun c21 => ?_) (fun c21 => False.elim (absurd c21 (by decide)))
        refine go_iconst (v := nI 0) (q := 29) (gDec iX11_glyph_ok 15 rfl) (by decide) rfl ?_
        refine go_puti (q := 32) fX11_54 gft11 (gDec iX11_glyph_ok 16 rfl) rfl (by decide) rfl rfl rfl rfl ?_
        refine go_aload_n (q := 33) (gDec iX11_glyph_ok 17 rfl) rfl rfl rfl ?_
        refine go_geti (q := 36) fX11_54 (gDec iX11_glyph_ok 18 rfl) rfl (by decide) rfl ?_
        refine go_top (v' := nI 0) rfl ?_
        refine go_if_le (t := 41) (q := 39) (gDec iX11_glyph_ok 19 rfl) (by decide) rfl (fun c36 => ?_) (fun c36 => False.elim (c36 (by decide)))
        refine go_iload_n (q := 42) (gDec iX11_glyph_ok 22 rfl) rfl rfl rfl ?_
        refine go_tableIn (off := 86) (t := 128) (gDec iX11_glyph_ok 23 rfl) (by decide) (by decide) rfl (by decide) ?_
        refine go_aload_n (q := 129) (gDec iX11_glyph_ok 48 rfl) rfl rfl rfl ?_
        refine go_iload_n (q := 130) (gDec iX11_glyph_ok 49 rfl) rfl rfl rfl ?_
        refine go_callV (n2 := 0) (q := 133) kX11_129 (ctX11_advance hC (gMRt hM) hi) (gDec iX11_glyph_ok 50 rfl) rfl rfl (by decide) rfl rfl rfl (Nat.le_of_ble_eq_true rfl) rfl (gFit_rm (by decide) (by decide)) rfl ?_
        exact go_ireturn (gDec iX11_glyph_ok 51 rfl) rfl rfl rfl rfl (by decide)
      · skip
        refine go_aload_n (q := 1) (gDec iX11_glyph_ok 0 rfl) rfl rfl rfl ?_
        refine go_aload_n (q := 2) (gDec iX11_glyph_ok 1 rfl) rfl rfl rfl ?_
        refine go_iload_n (q := 3) (gDec iX11_glyph_ok 2 rfl) rfl rfl rfl ?_
        refine go_callV (n2 := 0) (q := 6) kX11_65 (ctX11_isGlyph (τ := τ) hW hM) (gDec iX11_glyph_ok 3 rfl) rfl rfl (by decide) rfl rfl rfl (Nat.le_of_ble_eq_true rfl) rfl (gFit_rm (by decide) (by decide)) rfl ?_
        refine go_top (v' := 1) (gWi_t (by (try rw [i2l_toInt]); exact h1)) ?_
        refine go_if_ne (t := 13) (q := 9) (gDec iX11_glyph_ok 4 rfl) (by decide) rfl (fun c6 => ?_) (fun c6 => False.elim (absurd c6 (by decide)))
        refine go_iload_n (q := 14) (gDec iX11_glyph_ok 7 rfl) rfl rfl rfl ?_
        refine go_i2l (q := 15) (gDec iX11_glyph_ok 8 rfl) rfl ?_
        refine go_iconst (v := nI 0) (q := 16) (gDec iX11_glyph_ok 9 rfl) (by decide) rfl ?_
        refine go_bipush (v := nI 9) (q := 18) (gDec iX11_glyph_ok 10 rfl) (by decide) rfl ?_
        refine go_callS (n2 := 0) (q := 21) kX11_57 ctX11_in (gDec iX11_glyph_ok 11 rfl) rfl rfl (Nat.le_of_ble_eq_true rfl) rfl (gFit_rm (by decide) (by decide)) rfl ?_
        refine go_top (v' := 1) (gWi_t (by (try rw [i2l_toInt]); exact h2)) ?_
        refine go_if_ne (t := 28) (q := 24) (gDec iX11_glyph_ok 12 rfl) (by decide) rfl (fun c21 => ?_) (fun c21 => False.elim (absurd c21 (by decide)))
        refine go_iconst (v := nI 0) (q := 29) (gDec iX11_glyph_ok 15 rfl) (by decide) rfl ?_
        refine go_puti (q := 32) fX11_54 gft11 (gDec iX11_glyph_ok 16 rfl) rfl (by decide) rfl rfl rfl rfl ?_
        refine go_aload_n (q := 33) (gDec iX11_glyph_ok 17 rfl) rfl rfl rfl ?_
        refine go_geti (q := 36) fX11_54 (gDec iX11_glyph_ok 18 rfl) rfl (by decide) rfl ?_
        refine go_top (v' := nI 0) rfl ?_
        refine go_if_le (t := 41) (q := 39) (gDec iX11_glyph_ok 19 rfl) (by decide) rfl (fun c36 => ?_) (fun c36 => False.elim (c36 (by decide)))
        refine go_iload_n (q := 42) (gDec iX11_glyph_ok 22 rfl) rfl rfl rfl ?_
        refine go_tableIn (off := 92) (t := 134) (gDec iX11_glyph_ok 23 rfl) (by decide) (by decide) rfl (by decide) ?_
        refine go_aload_n (q := 135) (gDec iX11_glyph_ok 52 rfl) rfl rfl rfl ?_
        refine go_iload_n (q := 136) (gDec iX11_glyph_ok 53 rfl) rfl rfl rfl ?_
        refine go_bipush (v := nI 85) (q := 138) (gDec iX11_glyph_ok 54 rfl) (by decide) rfl ?_
        refine go_iload_n (q := 139) (gDec iX11_glyph_ok 55 rfl) rfl rfl rfl ?_
        refine go_iadd (q := 140) (gDec iX11_glyph_ok 56 rfl) rfl ?_
        refine go_bipush (v := nI 6) (q := 142) (gDec iX11_glyph_ok 57 rfl) (by decide) rfl ?_
        refine go_isub (q := 143) (gDec iX11_glyph_ok 58 rfl) rfl ?_
        refine go_top (v' := nI 85) (by decide) ?_
        refine go_callV (n2 := 0) (q := 146) kX11_69 (ctX11_of (g := i) (w := 85) (by omega)) (gDec iX11_glyph_ok 59 rfl) rfl rfl (by decide) rfl rfl rfl (Nat.le_of_ble_eq_true rfl) rfl (gFit_rm (by decide) (by decide)) rfl ?_
        refine go_top (v' := τ.1 22 i) ((gMRt hM).fc hi rfl) ?_
        exact go_ireturn (gDec iX11_glyph_ok 60 rfl) rfl rfl rfl rfl (by decide)
      · skip
        refine go_aload_n (q := 1) (gDec iX11_glyph_ok 0 rfl) rfl rfl rfl ?_
        refine go_aload_n (q := 2) (gDec iX11_glyph_ok 1 rfl) rfl rfl rfl ?_
        refine go_iload_n (q := 3) (gDec iX11_glyph_ok 2 rfl) rfl rfl rfl ?_
        refine go_callV (n2 := 0) (q := 6) kX11_65 (ctX11_isGlyph (τ := τ) hW hM) (gDec iX11_glyph_ok 3 rfl) rfl rfl (by decide) rfl rfl rfl (Nat.le_of_ble_eq_true rfl) rfl (gFit_rm (by decide) (by decide)) rfl ?_
        refine go_top (v' := 1) (gWi_t (by (try rw [i2l_toInt]); exact h1)) ?_
        refine go_if_ne (t := 13) (q := 9) (gDec iX11_glyph_ok 4 rfl) (by decide) rfl (fun c6 => ?_) (fun c6 => False.elim (absurd c6 (by decide)))
        refine go_iload_n (q := 14) (gDec iX11_glyph_ok 7 rfl) rfl rfl rfl ?_
        refine go_i2l (q := 15) (gDec iX11_glyph_ok 8 rfl) rfl ?_
        refine go_iconst (v := nI 0) (q := 16) (gDec iX11_glyph_ok 9 rfl) (by decide) rfl ?_
        refine go_bipush (v := nI 9) (q := 18) (gDec iX11_glyph_ok 10 rfl) (by decide) rfl ?_
        refine go_callS (n2 := 0) (q := 21) kX11_57 ctX11_in (gDec iX11_glyph_ok 11 rfl) rfl rfl (Nat.le_of_ble_eq_true rfl) rfl (gFit_rm (by decide) (by decide)) rfl ?_
        refine go_top (v' := 1) (gWi_t (by (try rw [i2l_toInt]); exact h2)) ?_
        refine go_if_ne (t := 28) (q := 24) (gDec iX11_glyph_ok 12 rfl) (by decide) rfl (fun c21 => ?_) (fun c21 => False.elim (absurd c21 (by decide)))
        refine go_iconst (v := nI 0) (q := 29) (gDec iX11_glyph_ok 15 rfl) (by decide) rfl ?_
        refine go_puti (q := 32) fX11_54 gft11 (gDec iX11_glyph_ok 16 rfl) rfl (by decide) rfl rfl rfl rfl ?_
        refine go_aload_n (q := 33) (gDec iX11_glyph_ok 17 rfl) rfl rfl rfl ?_
        refine go_geti (q := 36) fX11_54 (gDec iX11_glyph_ok 18 rfl) rfl (by decide) rfl ?_
        refine go_top (v' := nI 0) rfl ?_
        refine go_if_le (t := 41) (q := 39) (gDec iX11_glyph_ok 19 rfl) (by decide) rfl (fun c36 => ?_) (fun c36 => False.elim (c36 (by decide)))
        refine go_iload_n (q := 42) (gDec iX11_glyph_ok 22 rfl) rfl rfl rfl ?_
        refine go_tableIn (off := 92) (t := 134) (gDec iX11_glyph_ok 23 rfl) (by decide) (by decide) rfl (by decide) ?_
        refine go_aload_n (q := 135) (gDec iX11_glyph_ok 52 rfl) rfl rfl rfl ?_
        refine go_iload_n (q := 136) (gDec iX11_glyph_ok 53 rfl) rfl rfl rfl ?_
        refine go_bipush (v := nI 85) (q := 138) (gDec iX11_glyph_ok 54 rfl) (by decide) rfl ?_
        refine go_iload_n (q := 139) (gDec iX11_glyph_ok 55 rfl) rfl rfl rfl ?_
        refine go_iadd (q := 140) (gDec iX11_glyph_ok 56 rfl) rfl ?_
        refine go_bipush (v := nI 6) (q := 142) (gDec iX11_glyph_ok 57 rfl) (by decide) rfl ?_
        refine go_isub (q := 143) (gDec iX11_glyph_ok 58 rfl) rfl ?_
        refine go_top (v' := nI 86) (by decide) ?_
        refine go_callV (n2 := 0) (q := 146) kX11_69 (ctX11_of (g := i) (w := 86) (by omega)) (gDec iX11_glyph_ok 59 rfl) rfl rfl (by decide) rfl rfl rfl (Nat.le_of_ble_eq_true rfl) rfl (gFit_rm (by decide) (by decide)) rfl ?_
        refine go_top (v' := τ.1 24 i) ((gMRt hM).sc hi rfl) ?_
        exact go_ireturn (gDec iX11_glyph_ok 60 rfl) rfl rfl rfl rfl (by decide)
      · skip
        refine go_aload_n (q := 1) (gDec iX11_glyph_ok 0 rfl) rfl rfl rfl ?_
        refine go_aload_n (q := 2) (gDec iX11_glyph_ok 1 rfl) rfl rfl rfl ?_
        refine go_iload_n (q := 3) (gDec iX11_glyph_ok 2 rfl) rfl rfl rfl ?_
        refine go_callV (n2 := 0) (q := 6) kX11_65 (ctX11_isGlyph (τ := τ) hW hM) (gDec iX11_glyph_ok 3 rfl) rfl rfl (by decide) rfl rfl rfl (Nat.le_of_ble_eq_true rfl) rfl (gFit_rm (by decide) (by decide)) rfl ?_
        refine go_top (v' := 1) (gWi_t (by (try rw [i2l_toInt]); exact h1)) ?_
        refine go_if_ne (t := 13) (q := 9) (gDec iX11_glyph_ok 4 rfl) (by decide) rfl (fun c6 => ?_) (fun c6 => False.elim (absurd c6 (by decide)))
        refine go_iload_n (q := 14) (gDec iX11_glyph_ok 7 rfl) rfl rfl rfl ?_
        refine go_i2l (q := 15) (gDec iX11_glyph_ok 8 rfl) rfl ?_
        refine go_iconst (v := nI 0) (q := 16) (gDec iX11_glyph_ok 9 rfl) (by decide) rfl ?_
        refine go_bipush (v := nI 9) (q := 18) (gDec iX11_glyph_ok 10 rfl) (by decide) rfl ?_
        refine go_callS (n2 := 0) (q := 21) kX11_57 ctX11_in (gDec iX11_glyph_ok 11 rfl) rfl rfl (Nat.le_of_ble_eq_true rfl) rfl (gFit_rm (by decide) (by decide)) rfl ?_
        refine go_top (v' := 1) (gWi_t (by (try rw [i2l_toInt]); exact h2)) ?_
        refine go_if_ne (t := 28) (q := 24) (gDec iX11_glyph_ok 12 rfl) (by decide) rfl (fun c21 => ?_) (fun c21 => False.elim (absurd c21 (by decide)))
        refine go_iconst (v := nI 0) (q := 29) (gDec iX11_glyph_ok 15 rfl) (by decide) rfl ?_
        refine go_puti (q := 32) fX11_54 gft11 (gDec iX11_glyph_ok 16 rfl) rfl (by decide) rfl rfl rfl rfl ?_
        refine go_aload_n (q := 33) (gDec iX11_glyph_ok 17 rfl) rfl rfl rfl ?_
        refine go_geti (q := 36) fX11_54 (gDec iX11_glyph_ok 18 rfl) rfl (by decide) rfl ?_
        refine go_top (v' := nI 0) rfl ?_
        refine go_if_le (t := 41) (q := 39) (gDec iX11_glyph_ok 19 rfl) (by decide) rfl (fun c36 => ?_) (fun c36 => False.elim (c36 (by decide)))
        refine go_iload_n (q := 42) (gDec iX11_glyph_ok 22 rfl) rfl rfl rfl ?_
        refine go_tableIn (off := 105) (t := 147) (gDec iX11_glyph_ok 23 rfl) (by decide) (by decide) rfl (by decide) ?_
        refine go_aload_n (q := 148) (gDec iX11_glyph_ok 61 rfl) rfl rfl rfl ?_
        refine go_iload_n (q := 149) (gDec iX11_glyph_ok 62 rfl) rfl rfl rfl ?_
        refine go_bipush (v := nI 87) (q := 151) (gDec iX11_glyph_ok 63 rfl) (by decide) rfl ?_
        refine go_callV (n2 := 0) (q := 154) kX11_69 (ctX11_of (g := i) (w := 87) (by omega)) (gDec iX11_glyph_ok 64 rfl) rfl rfl (by decide) rfl rfl rfl (Nat.le_of_ble_eq_true rfl) rfl (gFit_rm (by decide) (by decide)) rfl ?_
        refine go_top (v' := τ.1 31 i) ((gMRt hM).ns0 hi rfl) ?_
        exact go_ireturn (gDec iX11_glyph_ok 65 rfl) rfl rfl rfl rfl (by decide)
      · skip
        refine go_aload_n (q := 1) (gDec iX11_glyph_ok 0 rfl) rfl rfl rfl ?_
        refine go_aload_n (q := 2) (gDec iX11_glyph_ok 1 rfl) rfl rfl rfl ?_
        refine go_iload_n (q := 3) (gDec iX11_glyph_ok 2 rfl) rfl rfl rfl ?_
        refine go_callV (n2 := 0) (q := 6) kX11_65 (ctX11_isGlyph (τ := τ) hW hM) (gDec iX11_glyph_ok 3 rfl) rfl rfl (by decide) rfl rfl rfl (Nat.le_of_ble_eq_true rfl) rfl (gFit_rm (by decide) (by decide)) rfl ?_
        refine go_top (v' := 1) (gWi_t (by (try rw [i2l_toInt]); exact h1)) ?_
        refine go_if_ne (t := 13) (q := 9) (gDec iX11_glyph_ok 4 rfl) (by decide) rfl (fun c6 => ?_) (fun c6 => False.elim (absurd c6 (by decide)))
        refine go_iload_n (q := 14) (gDec iX11_glyph_ok 7 rfl) rfl rfl rfl ?_
        refine go_i2l (q := 15) (gDec iX11_glyph_ok 8 rfl) rfl ?_
        refine go_iconst (v := nI 0) (q := 16) (gDec iX11_glyph_ok 9 rfl) (by decide) rfl ?_
        refine go_bipush (v := nI 9) (q := 18) (gDec iX11_glyph_ok 10 rfl) (by decide) rfl ?_
        refine go_callS (n2 := 0) (q := 21) kX11_57 ctX11_in (gDec iX11_glyph_ok 11 rfl) rfl rfl (Nat.le_of_ble_eq_true rfl) rfl (gFit_rm (by decide) (by decide)) rfl ?_
        refine go_top (v' := 1) (gWi_t (by (try rw [i2l_toInt]); exact h2)) ?_
        refine go_if_ne (t := 28) (q := 24) (gDec iX11_glyph_ok 12 rfl) (by decide) rfl (fun c21 => ?_) (fun c21 => False.elim (absurd c21 (by decide)))
        refine go_iconst (v := nI 0) (q := 29) (gDec iX11_glyph_ok 15 rfl) (by decide) rfl ?_
        refine go_puti (q := 32) fX11_54 gft11 (gDec iX11_glyph_ok 16 rfl) rfl (by decide) rfl rfl rfl rfl ?_
        refine go_aload_n (q := 33) (gDec iX11_glyph_ok 17 rfl) rfl rfl rfl ?_
        refine go_geti (q := 36) fX11_54 (gDec iX11_glyph_ok 18 rfl) rfl (by decide) rfl ?_
        refine go_top (v' := nI 0) rfl ?_
        refine go_if_le (t := 41) (q := 39) (gDec iX11_glyph_ok 19 rfl) (by decide) rfl (fun c36 => ?_) (fun c36 => False.elim (c36 (by decide)))
        refine go_iload_n (q := 42) (gDec iX11_glyph_ok 22 rfl) rfl rfl rfl ?_
        refine go_tableOut (t := 155) (gDec iX11_glyph_ok 23 rfl) (by decide) (by decide) ?_
        refine go_aload_n (q := 156) (gDec iX11_glyph_ok 66 rfl) rfl rfl rfl ?_
        refine go_iload_n (q := 157) (gDec iX11_glyph_ok 67 rfl) rfl rfl rfl ?_
        refine go_callV (n2 := 0) (q := 160) kX11_132 (ctX11_areas (τ := τ) hW (gMRt hM) hi) (gDec iX11_glyph_ok 68 rfl) rfl rfl (by decide) rfl rfl rfl (Nat.le_of_ble_eq_true rfl) rfl (gFit_rm (by decide) (by decide)) rfl ?_
        exact go_ireturn (gDec iX11_glyph_ok 69 rfl) rfl rfl rfl rfl (by decide)
    · rw [if_neg h2]
      refine go_aload_n (q := 1) (gDec iX11_glyph_ok 0 rfl) rfl rfl rfl ?_
      refine go_aload_n (q := 2) (gDec iX11_glyph_ok 1 rfl) rfl rfl rfl ?_
      refine go_iload_n (q := 3) (gDec iX11_glyph_ok 2 rfl) rfl rfl rfl ?_
      refine go_callV (n2 := 0) (q := 6) kX11_65 (ctX11_isGlyph (τ := τ) hW hM) (gDec iX11_glyph_ok 3 rfl) rfl rfl (by decide) rfl rfl rfl (Nat.le_of_ble_eq_true rfl) rfl (gFit_rm (by decide) (by decide)) rfl ?_
      refine go_top (v' := 1) (gWi_t (by (try rw [i2l_toInt]); exact h1)) ?_
      refine go_if_ne (t := 13) (q := 9) (gDec iX11_glyph_ok 4 rfl) (by decide) rfl (fun c6 => ?_) (fun c6 => False.elim (absurd c6 (by decide)))
      refine go_iload_n (q := 14) (gDec iX11_glyph_ok 7 rfl) rfl rfl rfl ?_
      refine go_i2l (q := 15) (gDec iX11_glyph_ok 8 rfl) rfl ?_
      refine go_iconst (v := nI 0) (q := 16) (gDec iX11_glyph_ok 9 rfl) (by decide) rfl ?_
      refine go_bipush (v := nI 9) (q := 18) (gDec iX11_glyph_ok 10 rfl) (by decide) rfl ?_
      refine go_callS (n2 := 0) (q := 21) kX11_57 ctX11_in (gDec iX11_glyph_ok 11 rfl) rfl rfl (Nat.le_of_ble_eq_true rfl) rfl (gFit_rm (by decide) (by decide)) rfl ?_
      refine go_top (v' := 0) (gWi_f (by (try rw [i2l_toInt]); exact h2)) ?_
      refine go_if_ne (t := 28) (q := 24) (gDec iX11_glyph_ok 12 rfl) (by decide) rfl (fun c21 => False.elim (c21 rfl)) (fun c21 => ?_)
      refine go_iconst (v := nI 2) (q := 25) (gDec iX11_glyph_ok 13 rfl) (by decide) rfl ?_
      refine go_goto (t := 29) (gDec iX11_glyph_ok 14 rfl) (by decide) ?_
      refine go_puti (q := 32) fX11_54 gft11 (gDec iX11_glyph_ok 16 rfl) rfl (by decide) rfl rfl rfl rfl ?_
      refine go_aload_n (q := 33) (gDec iX11_glyph_ok 17 rfl) rfl rfl rfl ?_
      refine go_geti (q := 36) fX11_54 (gDec iX11_glyph_ok 18 rfl) rfl (by decide) rfl ?_
      refine go_top (v' := nI 2) rfl ?_
      refine go_if_le (t := 41) (q := 39) (gDec iX11_glyph_ok 19 rfl) (by decide) rfl (fun c36 => False.elim (absurd c36 (by decide))) (fun c36 => ?_)
      refine go_iconst (v := nI 0) (q := 40) (gDec iX11_glyph_ok 20 rfl) (by decide) rfl ?_
      exact go_ireturn (gDec iX11_glyph_ok 21 rfl) rfl rfl rfl (congrArg (gPut σ 376 5) xc_OA_A) (by decide)
  · rw [show fGlyph τ g w = _ from if_neg h1]
    refine go_aload_n (q := 1) (gDec iX11_glyph_ok 0 rfl) rfl rfl rfl ?_
    refine go_aload_n (q := 2) (gDec iX11_glyph_ok 1 rfl) rfl rfl rfl ?_
    refine go_iload_n (q := 3) (gDec iX11_glyph_ok 2 rfl) rfl rfl rfl ?_
    refine go_callV (n2 := 0) (q := 6) kX11_65 (ctX11_isGlyph (τ := τ) hW hM) (gDec iX11_glyph_ok 3 rfl) rfl rfl (by decide) rfl rfl rfl (Nat.le_of_ble_eq_true rfl) rfl (gFit_rm (by decide) (by decide)) rfl ?_
    refine go_top (v' := 0) (gWi_f (by (try rw [i2l_toInt]); exact h1)) ?_
    refine go_if_ne (t := 13) (q := 9) (gDec iX11_glyph_ok 4 rfl) (by decide) rfl (fun c6 => False.elim (c6 rfl)) (fun c6 => ?_)
    refine go_iconst (v := nI 1) (q := 10) (gDec iX11_glyph_ok 5 rfl) (by decide) rfl ?_
    refine go_goto (t := 29) (gDec iX11_glyph_ok 6 rfl) (by decide) ?_
    refine go_puti (q := 32) fX11_54 gft11 (gDec iX11_glyph_ok 16 rfl) rfl (by decide) rfl rfl rfl rfl ?_
    refine go_aload_n (q := 33) (gDec iX11_glyph_ok 17 rfl) rfl rfl rfl ?_
    refine go_geti (q := 36) fX11_54 (gDec iX11_glyph_ok 18 rfl) rfl (by decide) rfl ?_
    refine go_top (v' := nI 1) rfl ?_
    refine go_if_le (t := 41) (q := 39) (gDec iX11_glyph_ok 19 rfl) (by decide) rfl (fun c36 => False.elim (absurd c36 (by decide))) (fun c36 => ?_)
    refine go_iconst (v := nI 0) (q := 40) (gDec iX11_glyph_ok 20 rfl) (by decide) rfl ?_
    exact go_ireturn (gDec iX11_glyph_ok 21 rfl) rfl rfl rfl (congrArg (gPut σ 376 5) xc_OA_O) (by decide)
