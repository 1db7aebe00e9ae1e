def fAddGlyph (σ : gST) (c : Int32) : gO × gST := if 33 ≤ c.toInt ∧ c.toInt ≤ 126 then
    if gNg σ = 24 ∨ ¬ gFind (σ.1 4) c 0 (gNg σ) = -1 then (xISE, σ) else (rI (nI (gNg σ)), gPut (gPut (gRem σ) 4 (gNg σ) c) 2 5 (nI (gNg σ + 1)))
  else (xIAE, σ)

set_option maxHeartbeats 4000000 in
set_option maxRecDepth 100000 in
theorem ctX10_addGlyph {κ : gK} {σ : gST} {c : Int32} (hW : gDW σ) (hH : gHW σ) : gCt κ mX10_addGlyph 9 [.ref (κ.2.1 + 0), .int c] σ (fAddGlyph σ c).1 (fAddGlyph σ c).2 1 := by
  refine ct_of (by decide +kernel) rfl (Nat.le_of_ble_eq_true rfl) rfl ?_
  by_cases h1 : 33 ≤ c.toInt ∧ c.toInt ≤ 126
  · by_cases h2 : gNg σ = 24
    · rw [show fAddGlyph σ c = (xISE, σ) from (if_pos h1).trans (if_pos (Or.inl h2))]

      refine go_iload_n (q := 1) (gDec iX10_addGlyph_ok 0 rfl) rfl rfl rfl ?_
      refine go_i2l (q := 2) (gDec iX10_addGlyph_ok 1 rfl) rfl ?_
      refine go_ldc2 (q := 5) wX10_55 (gDec iX10_addGlyph_ok 2 rfl) rfl ?_
      refine go_ldc2 (q := 8) wX10_57 (gDec iX10_addGlyph_ok 3 rfl) rfl ?_
      refine go_callS (n2 := 0) (q := 11) kX10_59 ctX10_isWithin (gDec iX10_addGlyph_ok 4 rfl) rfl rfl (Nat.le_of_ble_eq_true rfl) rfl (gFit_rm (by decide) (by decide)) rfl ?_
      refine go_top (v' := 1) (gWi_t (by rw [i2l_toInt]; exact h1)) ?_
      refine go_if_ne (t := 24) (q := 14) (gDec iX10_addGlyph_ok 5 rfl) (by decide) rfl (fun c11 => ?_) (fun c11 => False.elim (absurd c11 (by decide)))
      refine go_aload_n (q := 25) (gDec iX10_addGlyph_ok 11 rfl) rfl rfl rfl ?_
      refine go_getr (r' := 1) (q := 28) fX10_10 (gDec iX10_addGlyph_ok 12 rfl) rfl (by decide) rfl ?_
      refine go_getr (r' := 2) (q := 31) fX10_70 (gDec iX10_addGlyph_ok 13 rfl) rfl (by decide) rfl ?_
      refine go_callV (n2 := 0) (q := 34) kX10_74 (ctX5_isFull (n := gNg σ) hW.ng hW.ng24) (gDec iX10_addGlyph_ok 14 rfl) rfl rfl (by decide) rfl rfl rfl (Nat.le_of_ble_eq_true rfl) rfl (gFit_rm (by decide) (by decide)) rfl ?_
      refine go_if_ne (t := 52) (q := 37) (gDec iX10_addGlyph_ok 15 rfl) (by decide) rfl (fun c34 => ?_) (fun c34 => False.elim (by rw [if_pos h2] at c34; exact absurd c34 (by decide)))
      exact go_throw th_IllegalStateException (List.mem_of_getElem? (i := 1) rfl) rfl rfl (gDec iX10_addGlyph_ok 23 rfl) (gDec iX10_addGlyph_ok 24 rfl) (gDec iX10_addGlyph_ok 25 rfl) (gDec iX10_addGlyph_ok 26 rfl) (gDec iX10_addGlyph_ok 27 rfl) (by decide) (by decide)
    · by_cases h3 : gFind (σ.1 4) c 0 (gNg σ) = -1
      · rw [show fAddGlyph σ c = (rI (nI (gNg σ)), gPut (gPut (gRem σ) 4 (gNg σ) c) 2 5 (nI (gNg σ + 1))) from (if_pos h1).trans (if_neg (fun h9 => h9.elim h2 (fun h8 => h8 h3)))]

        refine go_iload_n (q := 1) (gDec iX10_addGlyph_ok 0 rfl) rfl rfl rfl ?_
        refine go_i2l (q := 2) (gDec iX10_addGlyph_ok 1 rfl) rfl ?_
        refine go_ldc2 (q := 5) wX10_55 (gDec iX10_addGlyph_ok 2 rfl) rfl ?_
        refine go_ldc2 (q := 8) wX10_57 (gDec iX10_addGlyph_ok 3 rfl) rfl ?_
        refine go_callS (n2 := 0) (q := 11) kX10_59 ctX10_isWithin (gDec iX10_addGlyph_ok 4 rfl) rfl rfl (Nat.le_of_ble_eq_true rfl) rfl (gFit_rm (by decide) (by decide)) rfl ?_
        refine go_top (v' := 1) (gWi_t (by rw [i2l_toInt]; exact h1)) ?_
        refine go_if_ne (t := 24) (q := 14) (gDec iX10_addGlyph_ok 5 rfl) (by decide) rfl (fun c11 => ?_) (fun c11 => False.elim (absurd c11 (by decide)))
        refine go_aload_n (q := 25) (gDec iX10_addGlyph_ok 11 rfl) rfl rfl rfl ?_
        refine go_getr (r' := 1) (q := 28) fX10_10 (gDec iX10_addGlyph_ok 12 rfl) rfl (by decide) rfl ?_
        refine go_getr (r' := 2) (q := 31) fX10_70 (gDec iX10_addGlyph_ok 13 rfl) rfl (by decide) rfl ?_
        refine go_callV (n2 := 0) (q := 34) kX10_74 (ctX5_isFull (n := gNg σ) hW.ng hW.ng24) (gDec iX10_addGlyph_ok 14 rfl) rfl rfl (by decide) rfl rfl rfl (Nat.le_of_ble_eq_true rfl) rfl (gFit_rm (by decide) (by decide)) rfl ?_
        refine go_if_ne (t := 52) (q := 37) (gDec iX10_addGlyph_ok 15 rfl) (by decide) rfl (fun c34 => False.elim (by rw [if_neg h2] at c34; exact c34 rfl)) (fun c34 => ?_)
        refine go_aload_n (q := 38) (gDec iX10_addGlyph_ok 16 rfl) rfl rfl rfl ?_
        refine go_getr (r' := 1) (q := 41) fX10_10 (gDec iX10_addGlyph_ok 17 rfl) rfl (by decide) rfl ?_
        refine go_getr (r' := 2) (q := 44) fX10_70 (gDec iX10_addGlyph_ok 18 rfl) rfl (by decide) rfl ?_
        refine go_iload_n (q := 45) (gDec iX10_addGlyph_ok 19 rfl) rfl rfl rfl ?_
        refine go_callV (n2 := 0) (q := 48) kX10_80 (ctX5_glyphWith (N := gNg σ) hW.ng24 hW.ng) (gDec iX10_addGlyph_ok 20 rfl) rfl rfl (by decide) rfl rfl rfl (Nat.le_of_ble_eq_true rfl) rfl (gFit_rm (by decide) (by decide)) rfl ?_
        refine go_iconst (v := (-1)) (q := 49) (gDec iX10_addGlyph_ok 21 rfl) (by decide) rfl ?_
        refine go_icmp_eq (t := 62) (q := 52) (gDec iX10_addGlyph_ok 22 rfl) (by decide) rfl (fun c49 => ?_) (fun c49 => False.elim (c49 h3))
        refine go_aload_n (q := 63) (gDec iX10_addGlyph_ok 28 rfl) rfl rfl rfl ?_
        refine go_getr (r' := 71) (q := 66) fX10_22 (gDec iX10_addGlyph_ok 29 rfl) rfl (by decide) rfl ?_
        refine go_aload_n (q := 67) (gDec iX10_addGlyph_ok 30 rfl) rfl rfl rfl ?_
        refine go_getr (r' := 1) (q := 70) fX10_10 (gDec iX10_addGlyph_ok 31 rfl) rfl (by decide) rfl ?_
        refine go_callV (n2 := 0) (q := 73) kX10_89 (ctX3_rem hH) (gDec iX10_addGlyph_ok 32 rfl) rfl rfl (by decide) rfl rfl rfl (Nat.le_of_ble_eq_true rfl) rfl (gFit_rm (by decide) (by decide)) rfl ?_
        refine go_aload_n (q := 74) (gDec iX10_addGlyph_ok 33 rfl) rfl rfl rfl ?_
        refine go_getr (r' := 1) (q := 77) fX10_10 (gDec iX10_addGlyph_ok 34 rfl) rfl (by decide) rfl ?_
        refine go_getr (r' := 2) (q := 80) fX10_70 (gDec iX10_addGlyph_ok 35 rfl) rfl (by decide) rfl ?_
        refine go_iload_n (q := 81) (gDec iX10_addGlyph_ok 36 rfl) rfl rfl rfl ?_
        refine go_callV (n2 := 0) (q := 84) kX10_93 (ctX5_addEmptyGlyph (n := gNg σ) (((congrFun ((gRem_D σ) 2 (by decide)) 5)).trans hW.ng) (by have := hW.ng24; omega)) (gDec iX10_addGlyph_ok 37 rfl) rfl rfl (by decide) rfl rfl rfl (Nat.le_of_ble_eq_true rfl) rfl (gFit_rm (by decide) (by decide)) rfl ?_
        exact go_ireturn (gDec iX10_addGlyph_ok 38 rfl) rfl rfl rfl rfl (by decide)
      · rw [show fAddGlyph σ c = (xISE, σ) from (if_pos h1).trans (if_pos (Or.inr h3))]

        refine go_iload_n (q := 1) (gDec iX10_addGlyph_ok 0 rfl) rfl rfl rfl ?_
        refine go_i2l (q := 2) (gDec iX10_addGlyph_ok 1 rfl) rfl ?_
        refine go_ldc2 (q := 5) wX10_55 (gDec iX10_addGlyph_ok 2 rfl) rfl ?_
        refine go_ldc2 (q := 8) wX10_57 (gDec iX10_addGlyph_ok 3 rfl) rfl ?_
        refine go_callS (n2 := 0) (q := 11) kX10_59 ctX10_isWithin (gDec iX10_addGlyph_ok 4 rfl) rfl rfl (Nat.le_of_ble_eq_true rfl) rfl (gFit_rm (by decide) (by decide)) rfl ?_
        refine go_top (v' := 1) (gWi_t (by rw [i2l_toInt]; exact h1)) ?_
        refine go_if_ne (t := 24) (q := 14) (gDec iX10_addGlyph_ok 5 rfl) (by decide) rfl (fun c11 => ?_) (fun c11 => False.elim (absurd c11 (by decide)))
        refine go_aload_n (q := 25) (gDec iX10_addGlyph_ok 11 rfl) rfl rfl rfl ?_
        refine go_getr (r' := 1) (q := 28) fX10_10 (gDec iX10_addGlyph_ok 12 rfl) rfl (by decide) rfl ?_
        refine go_getr (r' := 2) (q := 31) fX10_70 (gDec iX10_addGlyph_ok 13 rfl) rfl (by decide) rfl ?_
        refine go_callV (n2 := 0) (q := 34) kX10_74 (ctX5_isFull (n := gNg σ) hW.ng hW.ng24) (gDec iX10_addGlyph_ok 14 rfl) rfl rfl (by decide) rfl rfl rfl (Nat.le_of_ble_eq_true rfl) rfl (gFit_rm (by decide) (by decide)) rfl ?_
        refine go_if_ne (t := 52) (q := 37) (gDec iX10_addGlyph_ok 15 rfl) (by decide) rfl (fun c34 => False.elim (by rw [if_neg h2] at c34; exact c34 rfl)) (fun c34 => ?_)
        refine go_aload_n (q := 38) (gDec iX10_addGlyph_ok 16 rfl) rfl rfl rfl ?_
        refine go_getr (r' := 1) (q := 41) fX10_10 (gDec iX10_addGlyph_ok 17 rfl) rfl (by decide) rfl ?_
        refine go_getr (r' := 2) (q := 44) fX10_70 (gDec iX10_addGlyph_ok 18 rfl) rfl (by decide) rfl ?_
        refine go_iload_n (q := 45) (gDec iX10_addGlyph_ok 19 rfl) rfl rfl rfl ?_
        refine go_callV (n2 := 0) (q := 48) kX10_80 (ctX5_glyphWith (N := gNg σ) hW.ng24 hW.ng) (gDec iX10_addGlyph_ok 20 rfl) rfl rfl (by decide) rfl rfl rfl (Nat.le_of_ble_eq_true rfl) rfl (gFit_rm (by decide) (by decide)) rfl ?_
        refine go_iconst (v := (-1)) (q := 49) (gDec iX10_addGlyph_ok 21 rfl) (by decide) rfl ?_
        refine go_icmp_eq (t := 62) (q := 52) (gDec iX10_addGlyph_ok 22 rfl) (by decide) rfl (fun c49 => False.elim (h3 c49)) (fun c49 => ?_)
        exact go_throw th_IllegalStateException (List.mem_of_getElem? (i := 1) rfl) rfl rfl (gDec iX10_addGlyph_ok 23 rfl) (gDec iX10_addGlyph_ok 24 rfl) (gDec iX10_addGlyph_ok 25 rfl) (gDec iX10_addGlyph_ok 26 rfl) (gDec iX10_addGlyph_ok 27 rfl) (by decide) (by decide)
  · rw [show fAddGlyph σ c = (xIAE, σ) from if_neg h1]

    refine go_iload_n (q := 1) (gDec iX10_addGlyph_ok 0 rfl) rfl rfl rfl ?_
    refine go_i2l (q := 2) (gDec iX10_addGlyph_ok 1 rfl) rfl ?_
    refine go_ldc2 (q := 5) wX10_55 (gDec iX10_addGlyph_ok 2 rfl) rfl ?_
    refine go_ldc2 (q := 8) wX10_57 (gDec iX10_addGlyph_ok 3 rfl) rfl ?_
    refine go_callS (n2 := 0) (q := 11) kX10_59 ctX10_isWithin (gDec iX10_addGlyph_ok 4 rfl) rfl rfl (Nat.le_of_ble_eq_true rfl) rfl (gFit_rm (by decide) (by decide)) rfl ?_
    refine go_top (v' := 0) (gWi_f (by rw [i2l_toInt]; exact h1)) ?_
    refine go_if_ne (t := 24) (q := 14) (gDec iX10_addGlyph_ok 5 rfl) (by decide) rfl (fun c11 => False.elim (c11 rfl)) (fun c11 => ?_)
    exact go_throw th_IllegalArgumentException (List.mem_of_getElem? (i := 0) rfl) rfl rfl (gDec iX10_addGlyph_ok 6 rfl) (gDec iX10_addGlyph_ok 7 rfl) (gDec iX10_addGlyph_ok 8 rfl) (gDec iX10_addGlyph_ok 9 rfl) (gDec iX10_addGlyph_ok 10 rfl) (by decide) (by decide)

abbrev gCo (x y : Int) : Prop := (-200 ≤ x ∧ x ≤ 1200) ∧ (-200 ≤ y ∧ y ≤ 1200)
theorem l_add (x y : Int32) : (x.toInt64 + y.toInt64).toInt = x.toInt + y.toInt := by
  have h1 := x.le_toInt
  have h2 := x.toInt_lt
  have h3 := y.le_toInt
  have h4 := y.toInt_lt
  rw [Int64.toInt_add, i2l_toInt, i2l_toInt]
  exact Int.bmod_eq_of_le_mul_two (by omega) (by omega)
theorem i_one_lt {x : Int32} : ¬ x < 1 ↔ 1 ≤ x.toInt := by
  rw [Int32.not_lt, Int32.le_iff_toInt_le]
  exact Iff.rfl
def fAddContour (σ : gST) (g x y w h : Int32) : gO × gST := if gInG σ g then
    if ((1 ≤ w.toInt ∧ 1 ≤ h.toInt) ∧ gCo x.toInt y.toInt) ∧ gCo (x.toInt + w.toInt) (y.toInt + h.toInt) then
      if 3 ≤ gNc σ (nA g) then (xISE, σ) else (rI (nI (gNc σ (nA g))), gBox (gRem σ) (nA g) (gNc σ (nA g)) x y (x + w) (y + h))
    else (xIAE, σ)
  else (xIOB, σ)

set_option maxHeartbeats 4000000 in
set_option maxRecDepth 100000 in
theorem ctX10_addContour {κ : gK} {σ : gST} {g x y w h : Int32} (hW : gDW σ) (hH : gHW σ) : gCt κ mX10_addContour 9 [.ref (κ.2.1 + 0), .int g, .int x, .int y, .int w, .int h] σ (fAddContour σ g x y w h).1 (fAddContour σ g x y w h).2 1 := by
  refine ct_of (by decide +kernel) rfl (Nat.le_of_ble_eq_true rfl) rfl ?_
  by_cases h1 : gInG σ g
  · have hs : fAddContour σ g x y w h = _ := if_pos h1
    rw [hs]
    obtain ⟨i, hi, rfl⟩ := gInG.ex h1
    have h24 := hW.ng24
    have hc3 := hW.nc3 (g := i) (by omega)
    rw [nA_nI (n := i) (by omega)]
    by_cases h3 : ((1 ≤ w.toInt ∧ 1 ≤ h.toInt) ∧ gCo x.toInt y.toInt) ∧ gCo (x.toInt + w.toInt) (y.toInt + h.toInt)
    · rw [if_pos h3]
      by_cases h4 : 3 ≤ gNc σ i
      · rw [if_pos h4]
        refine go_aload_n (q := 1) (gDec iX10_addContour_ok 0 rfl) rfl rfl rfl ?_
        refine go_iload_n (q := 2) (gDec iX10_addContour_ok 1 rfl) rfl rfl rfl ?_
        refine go_callV (n2 := 0) (q := 5) kX10_96 (ctX10_rG hW hi) (gDec iX10_addContour_ok 2 rfl) rfl rfl (by decide) rfl rfl rfl (Nat.le_of_ble_eq_true rfl) rfl (gFit_rm (by decide) (by decide)) rfl ?_
        refine go_iload (q := 7) (gDec iX10_addContour_ok 3 rfl) rfl rfl ?_
        refine go_iconst (v := 1) (q := 8) (gDec iX10_addContour_ok 4 rfl) (by decide) rfl ?_
        refine go_icmp_lt (t := 17) (q := 11) (gDec iX10_addContour_ok 5 rfl) (by decide) rfl (fun c8 => False.elim (absurd c8 (i_one_lt.mpr h3.1.1.1))) (fun c8 => ?_)
        refine go_iload (q := 13) (gDec iX10_addContour_ok 6 rfl) rfl rfl ?_
        refine go_iconst (v := 1) (q := 14) (gDec iX10_addContour_ok 7 rfl) (by decide) rfl ?_
        refine go_icmp_ge (t := 27) (q := 17) (gDec iX10_addContour_ok 8 rfl) (by decide) rfl (fun c14 => ?_) (fun c14 => False.elim (c14 (Int32.not_lt.mp (i_one_lt.mpr h3.1.1.2))))
        refine go_iload_n (q := 28) (gDec iX10_addContour_ok 14 rfl) rfl rfl rfl ?_
        refine go_i2l (q := 29) (gDec iX10_addContour_ok 15 rfl) rfl ?_
        refine go_iload_n (q := 30) (gDec iX10_addContour_ok 16 rfl) rfl rfl rfl ?_
        refine go_i2l (q := 31) (gDec iX10_addContour_ok 17 rfl) rfl ?_
        refine go_callS (n2 := 0) (q := 34) kX10_102 (ctX10_requireCoordinates (x := x.toInt64) (y := y.toInt64) (by rw [i2l_toInt, i2l_toInt]; exact h3.1.2)) (gDec iX10_addContour_ok 18 rfl) rfl rfl (Nat.le_of_ble_eq_true rfl) rfl (gFit_rm (by decide) (by decide)) rfl ?_
        refine go_iload_n (q := 35) (gDec iX10_addContour_ok 19 rfl) rfl rfl rfl ?_
        refine go_i2l (q := 36) (gDec iX10_addContour_ok 20 rfl) rfl ?_
        refine go_iload (q := 38) (gDec iX10_addContour_ok 21 rfl) rfl rfl ?_
        refine go_i2l (q := 39) (gDec iX10_addContour_ok 22 rfl) rfl ?_
        refine go_ladd (q := 40) (gDec iX10_addContour_ok 23 rfl) rfl ?_
        refine go_iload_n (q := 41) (gDec iX10_addContour_ok 24 rfl) rfl rfl rfl ?_
        refine go_i2l (q := 42) (gDec iX10_addContour_ok 25 rfl) rfl ?_
        refine go_iload (q := 44) (gDec iX10_addContour_ok 26 rfl) rfl rfl ?_
        refine go_i2l (q := 45) (gDec iX10_addContour_ok 27 rfl) rfl ?_
        refine go_ladd (q := 46) (gDec iX10_addContour_ok 28 rfl) rfl ?_
        refine go_callS (n2 := 0) (q := 49) kX10_102 (ctX10_requireCoordinates (x := x.toInt64 + w.toInt64) (y := y.toInt64 + h.toInt64) (by rw [l_add, l_add]; exact h3.2)) (gDec iX10_addContour_ok 29 rfl) rfl rfl (Nat.le_of_ble_eq_true rfl) rfl (gFit_rm (by decide) (by decide)) rfl ?_
        refine go_aload_n (q := 50) (gDec iX10_addContour_ok 30 rfl) rfl rfl rfl ?_
        refine go_getr (r' := 1) (q := 53) fX10_10 (gDec iX10_addContour_ok 31 rfl) rfl (by decide) rfl ?_
        refine go_getr (r' := 2) (q := 56) fX10_70 (gDec iX10_addContour_ok 32 rfl) rfl (by decide) rfl ?_
        refine go_iload_n (q := 57) (gDec iX10_addContour_ok 33 rfl) rfl rfl rfl ?_
        refine go_callV (n2 := 0) (q := 60) kX10_106 (ctX5_contourCount (g := i) (by omega)) (gDec iX10_addContour_ok 34 rfl) rfl rfl (by decide) rfl rfl rfl (Nat.le_of_ble_eq_true rfl) rfl (gFit_rm (by decide) (by decide)) rfl ?_
        refine go_top (v' := nI (gNc σ i)) (hW.nc (by omega)) ?_
        refine go_iconst (v := 3) (q := 61) (gDec iX10_addContour_ok 35 rfl) (by decide) rfl ?_
        refine go_icmp_lt (t := 74) (q := 64) (gDec iX10_addContour_ok 36 rfl) (by decide) rfl (fun c61 => False.elim (absurd c61 (nI_nlt (a := gNc σ i) (b := 3) (by omega) (by omega)))) (fun c61 => ?_)
        exact go_throw th_IllegalStateException (List.mem_of_getElem? (i := 5) rfl) rfl rfl (gDec iX10_addContour_ok 37 rfl) (gDec iX10_addContour_ok 38 rfl) (gDec iX10_addContour_ok 39 rfl) (gDec iX10_addContour_ok 40 rfl) (gDec iX10_addContour_ok 41 rfl) (by decide) (by decide)
      · rw [if_neg h4]
        refine go_aload_n (q := 1) (gDec iX10_addContour_ok 0 rfl) rfl rfl rfl ?_
        refine go_iload_n (q := 2) (gDec iX10_addContour_ok 1 rfl) rfl rfl rfl ?_
        refine go_callV (n2 := 0) (q := 5) kX10_96 (ctX10_rG hW hi) (gDec iX10_addContour_ok 2 rfl) rfl rfl (by decide) rfl rfl rfl (Nat.le_of_ble_eq_true rfl) rfl (gFit_rm (by decide) (by decide)) rfl ?_
        refine go_iload (q := 7) (gDec iX10_addContour_ok 3 rfl) rfl rfl ?_
        refine go_iconst (v := 1) (q := 8) (gDec iX10_addContour_ok 4 rfl) (by decide) rfl ?_
        refine go_icmp_lt (t := 17) (q := 11) (gDec iX10_addContour_ok 5 rfl) (by decide) rfl (fun c8 => False.elim (absurd c8 (i_one_lt.mpr h3.1.1.1))) (fun c8 => ?_)
        refine go_iload (q := 13) (gDec iX10_addContour_ok 6 rfl) rfl rfl ?_
        refine go_iconst (v := 1) (q := 14) (gDec iX10_addContour_ok 7 rfl) (by decide) rfl ?_
        refine go_icmp_ge (t := 27) (q := 17) (gDec iX10_addContour_ok 8 rfl) (by decide) rfl (fun c14 => ?_) (fun c14 => False.elim (c14 (Int32.not_lt.mp (i_one_lt.mpr h3.1.1.2))))
        refine go_iload_n (q := 28) (gDec iX10_addContour_ok 14 rfl) rfl rfl rfl ?_
        refine go_i2l (q := 29) (gDec iX10_addContour_ok 15 rfl) rfl ?_
        refine go_iload_n (q := 30) (gDec iX10_addContour_ok 16 rfl) rfl rfl rfl ?_
        refine go_i2l (q := 31) (gDec iX10_addContour_ok 17 rfl) rfl ?_
        refine go_callS (n2 := 0) (q := 34) kX10_102 (ctX10_requireCoordinates (x := x.toInt64) (y := y.toInt64) (by rw [i2l_toInt, i2l_toInt]; exact h3.1.2)) (gDec iX10_addContour_ok 18 rfl) rfl rfl (Nat.le_of_ble_eq_true rfl) rfl (gFit_rm (by decide) (by decide)) rfl ?_
        refine go_iload_n (q := 35) (gDec iX10_addContour_ok 19 rfl) rfl rfl rfl ?_
        refine go_i2l (q := 36) (gDec iX10_addContour_ok 20 rfl) rfl ?_
        refine go_iload (q := 38) (gDec iX10_addContour_ok 21 rfl) rfl rfl ?_
        refine go_i2l (q := 39) (gDec iX10_addContour_ok 22 rfl) rfl ?_
        refine go_ladd (q := 40) (gDec iX10_addContour_ok 23 rfl) rfl ?_
        refine go_iload_n (q := 41) (gDec iX10_addContour_ok 24 rfl) rfl rfl rfl ?_
        refine go_i2l (q := 42) (gDec iX10_addContour_ok 25 rfl) rfl ?_
        refine go_iload (q := 44) (gDec iX10_addContour_ok 26 rfl) rfl rfl ?_
        refine go_i2l (q := 45) (gDec iX10_addContour_ok 27 rfl) rfl ?_
        refine go_ladd (q := 46) (gDec iX10_addContour_ok 28 rfl) rfl ?_
        refine go_callS (n2 := 0) (q := 49) kX10_102 (ctX10_requireCoordinates (x := x.toInt64 + w.toInt64) (y := y.toInt64 + h.toInt64) (by rw [l_add, l_add]; exact h3.2)) (gDec iX10_addContour_ok 29 rfl) rfl rfl (Nat.le_of_ble_eq_true rfl) rfl (gFit_rm (by decide) (by decide)) rfl ?_
        refine go_aload_n (q := 50) (gDec iX10_addContour_ok 30 rfl) rfl rfl rfl ?_
        refine go_getr (r' := 1) (q := 53) fX10_10 (gDec iX10_addContour_ok 31 rfl) rfl (by decide) rfl ?_
        refine go_getr (r' := 2) (q := 56) fX10_70 (gDec iX10_addContour_ok 32 rfl) rfl (by decide) rfl ?_
        refine go_iload_n (q := 57) (gDec iX10_addContour_ok 33 rfl) rfl rfl rfl ?_
        refine go_callV (n2 := 0) (q := 60) kX10_106 (ctX5_contourCount (g := i) (by omega)) (gDec iX10_addContour_ok 34 rfl) rfl rfl (by decide) rfl rfl rfl (Nat.le_of_ble_eq_true rfl) rfl (gFit_rm (by decide) (by decide)) rfl ?_
        refine go_top (v' := nI (gNc σ i)) (hW.nc (by omega)) ?_
        refine go_iconst (v := 3) (q := 61) (gDec iX10_addContour_ok 35 rfl) (by decide) rfl ?_
        refine go_icmp_lt (t := 74) (q := 64) (gDec iX10_addContour_ok 36 rfl) (by decide) rfl (fun c61 => ?_) (fun c61 => False.elim (c61 (nI_lt (a := gNc σ i) (b := 3) (by omega) (by decide))))
        refine go_aload_n (q := 75) (gDec iX10_addContour_ok 42 rfl) rfl rfl rfl ?_
        refine go_getr (r' := 71) (q := 78) fX10_22 (gDec iX10_addContour_ok 43 rfl) rfl (by decide) rfl ?_
        refine go_aload_n (q := 79) (gDec iX10_addContour_ok 44 rfl) rfl rfl rfl ?_
        refine go_getr (r' := 1) (q := 82) fX10_10 (gDec iX10_addContour_ok 45 rfl) rfl (by decide) rfl ?_
        refine go_callV (n2 := 0) (q := 85) kX10_89 (ctX3_rem hH) (gDec iX10_addContour_ok 46 rfl) rfl rfl (by decide) rfl rfl rfl (Nat.le_of_ble_eq_true rfl) rfl (gFit_rm (by decide) (by decide)) rfl ?_
        refine go_aload_n (q := 86) (gDec iX10_addContour_ok 47 rfl) rfl rfl rfl ?_
        refine go_getr (r' := 1) (q := 89) fX10_10 (gDec iX10_addContour_ok 48 rfl) rfl (by decide) rfl ?_
        refine go_getr (r' := 2) (q := 92) fX10_70 (gDec iX10_addContour_ok 49 rfl) rfl (by decide) rfl ?_
        refine go_iload_n (q := 93) (gDec iX10_addContour_ok 50 rfl) rfl rfl rfl ?_
        refine go_iload_n (q := 94) (gDec iX10_addContour_ok 51 rfl) rfl rfl rfl ?_
        refine go_iload_n (q := 95) (gDec iX10_addContour_ok 52 rfl) rfl rfl rfl ?_
        refine go_iload_n (q := 96) (gDec iX10_addContour_ok 53 rfl) rfl rfl rfl ?_
        refine go_iload (q := 98) (gDec iX10_addContour_ok 54 rfl) rfl rfl ?_
        refine go_iadd (q := 99) (gDec iX10_addContour_ok 55 rfl) rfl ?_
        refine go_iload_n (q := 100) (gDec iX10_addContour_ok 56 rfl) rfl rfl rfl ?_
        refine go_iload (q := 102) (gDec iX10_addContour_ok 57 rfl) rfl rfl ?_
        refine go_iadd (q := 103) (gDec iX10_addContour_ok 58 rfl) rfl ?_
        refine go_callV (n2 := 0) (q := 106) kX10_111 (ctX5_addBox (g := i) (c := gNc σ i) (by omega) (((congrFun ((gRem_D σ) 6 (by decide)) i)).trans (hW.nc (by omega))) (by omega)) (gDec iX10_addContour_ok 59 rfl) rfl rfl (by decide) rfl rfl rfl (Nat.le_of_ble_eq_true rfl) rfl (gFit_rm (by decide) (by decide)) rfl ?_
        exact go_ireturn (gDec iX10_addContour_ok 60 rfl) rfl rfl rfl rfl (by decide)
    · rw [if_neg h3]
      by_cases h5 : w < 1
      · skip
        refine go_aload_n (q := 1) (gDec iX10_addContour_ok 0 rfl) rfl rfl rfl ?_
        refine go_iload_n (q := 2) (gDec iX10_addContour_ok 1 rfl) rfl rfl rfl ?_
        refine go_callV (n2 := 0) (q := 5) kX10_96 (ctX10_rG hW hi) (gDec iX10_addContour_ok 2 rfl) rfl rfl (by decide) rfl rfl rfl (Nat.le_of_ble_eq_true rfl) rfl (gFit_rm (by decide) (by decide)) rfl ?_
        refine go_iload (q := 7) (gDec iX10_addContour_ok 3 rfl) rfl rfl ?_
        refine go_iconst (v := 1) (q := 8) (gDec iX10_addContour_ok 4 rfl) (by decide) rfl ?_
        refine go_icmp_lt (t := 17) (q := 11) (gDec iX10_addContour_ok 5 rfl) (by decide) rfl (fun c8 => ?_) (fun c8 => False.elim (c8 h5))
        exact go_throw th_IllegalArgumentException (List.mem_of_getElem? (i := 3) rfl) rfl rfl (gDec iX10_addContour_ok 9 rfl) (gDec iX10_addContour_ok 10 rfl) (gDec iX10_addContour_ok 11 rfl) (gDec iX10_addContour_ok 12 rfl) (gDec iX10_addContour_ok 13 rfl) (by decide) (by decide)
      · by_cases h6 : h < 1
        · skip
          refine go_aload_n (q := 1) (gDec iX10_addContour_ok 0 rfl) rfl rfl rfl ?_
          refine go_iload_n (q := 2) (gDec iX10_addContour_ok 1 rfl) rfl rfl rfl ?_
          refine go_callV (n2 := 0) (q := 5) kX10_96 (ctX10_rG hW hi) (gDec iX10_addContour_ok 2 rfl) rfl rfl (by decide) rfl rfl rfl (Nat.le_of_ble_eq_true rfl) rfl (gFit_rm (by decide) (by decide)) rfl ?_
          refine go_iload (q := 7) (gDec iX10_addContour_ok 3 rfl) rfl rfl ?_
          refine go_iconst (v := 1) (q := 8) (gDec iX10_addContour_ok 4 rfl) (by decide) rfl ?_
          refine go_icmp_lt (t := 17) (q := 11) (gDec iX10_addContour_ok 5 rfl) (by decide) rfl (fun c8 => False.elim (h5 c8)) (fun c8 => ?_)
          refine go_iload (q := 13) (gDec iX10_addContour_ok 6 rfl) rfl rfl ?_
          refine go_iconst (v := 1) (q := 14) (gDec iX10_addContour_ok 7 rfl) (by decide) rfl ?_
          refine go_icmp_ge (t := 27) (q := 17) (gDec iX10_addContour_ok 8 rfl) (by decide) rfl (fun c14 => False.elim (absurd h6 (Int32.not_lt.mpr c14))) (fun c14 => ?_)
          exact go_throw th_IllegalArgumentException (List.mem_of_getElem? (i := 3) rfl) rfl rfl (gDec iX10_addContour_ok 9 rfl) (gDec iX10_addContour_ok 10 rfl) (gDec iX10_addContour_ok 11 rfl) (gDec iX10_addContour_ok 12 rfl) (gDec iX10_addContour_ok 13 rfl) (by decide) (by decide)
        · by_cases h7 : gCo x.toInt y.toInt
          · have h8 : ¬ gCo (x.toInt + w.toInt) (y.toInt + h.toInt) := fun h9 => h3 ⟨⟨⟨i_one_lt.mp h5, i_one_lt.mp h6⟩, h7⟩, h9⟩
            refine go_aload_n (q := 1) (gDec iX10_addContour_ok 0 rfl) rfl rfl rfl ?_
            refine go_iload_n (q := 2) (gDec iX10_addContour_ok 1 rfl) rfl rfl rfl ?_
            refine go_callV (n2 := 0) (q := 5) kX10_96 (ctX10_rG hW hi) (gDec iX10_addContour_ok 2 rfl) rfl rfl (by decide) rfl rfl rfl (Nat.le_of_ble_eq_true rfl) rfl (gFit_rm (by decide) (by decide)) rfl ?_
            refine go_iload (q := 7) (gDec iX10_addContour_ok 3 rfl) rfl rfl ?_
            refine go_iconst (v := 1) (q := 8) (gDec iX10_addContour_ok 4 rfl) (by decide) rfl ?_
            refine go_icmp_lt (t := 17) (q := 11) (gDec iX10_addContour_ok 5 rfl) (by decide) rfl (fun c8 => False.elim (h5 c8)) (fun c8 => ?_)
            refine go_iload (q := 13) (gDec iX10_addContour_ok 6 rfl) rfl rfl ?_
            refine go_iconst (v := 1) (q := 14) (gDec iX10_addContour_ok 7 rfl) (by decide) rfl ?_
            refine go_icmp_ge (t := 27) (q := 17) (gDec iX10_addContour_ok 8 rfl) (by decide) rfl (fun c14 => ?_) (fun c14 => False.elim (c14 (Int32.not_lt.mp h6)))
            refine go_iload_n (q := 28) (gDec iX10_addContour_ok 14 rfl) rfl rfl rfl ?_
            refine go_i2l (q := 29) (gDec iX10_addContour_ok 15 rfl) rfl ?_
            refine go_iload_n (q := 30) (gDec iX10_addContour_ok 16 rfl) rfl rfl rfl ?_
            refine go_i2l (q := 31) (gDec iX10_addContour_ok 17 rfl) rfl ?_
            refine go_callS (n2 := 0) (q := 34) kX10_102 (ctX10_requireCoordinates (x := x.toInt64) (y := y.toInt64) (by rw [i2l_toInt, i2l_toInt]; exact h7)) (gDec iX10_addContour_ok 18 rfl) rfl rfl (Nat.le_of_ble_eq_true rfl) rfl (gFit_rm (by decide) (by decide)) rfl ?_
            refine go_iload_n (q := 35) (gDec iX10_addContour_ok 19 rfl) rfl rfl rfl ?_
            refine go_i2l (q := 36) (gDec iX10_addContour_ok 20 rfl) rfl ?_
            refine go_iload (q := 38) (gDec iX10_addContour_ok 21 rfl) rfl rfl ?_
            refine go_i2l (q := 39) (gDec iX10_addContour_ok 22 rfl) rfl ?_
            refine go_ladd (q := 40) (gDec iX10_addContour_ok 23 rfl) rfl ?_
            refine go_iload_n (q := 41) (gDec iX10_addContour_ok 24 rfl) rfl rfl rfl ?_
            refine go_i2l (q := 42) (gDec iX10_addContour_ok 25 rfl) rfl ?_
            refine go_iload (q := 44) (gDec iX10_addContour_ok 26 rfl) rfl rfl ?_
            refine go_i2l (q := 45) (gDec iX10_addContour_ok 27 rfl) rfl ?_
            refine go_ladd (q := 46) (gDec iX10_addContour_ok 28 rfl) rfl ?_
            exact go_callS_x kX10_102 (ctX10_requireCoordinates_x (x := x.toInt64 + w.toInt64) (y := y.toInt64 + h.toInt64) (by rw [l_add, l_add]; exact h8)) (gDec iX10_addContour_ok 29 rfl) rfl rfl (Nat.le_of_ble_eq_true rfl) (gFit_rm (by decide) (by decide)) rfl
          · skip
            refine go_aload_n (q := 1) (gDec iX10_addContour_ok 0 rfl) rfl rfl rfl ?_
            refine go_iload_n (q := 2) (gDec iX10_addContour_ok 1 rfl) rfl rfl rfl ?_
            refine go_callV (n2 := 0) (q := 5) kX10_96 (ctX10_rG hW hi) (gDec iX10_addContour_ok 2 rfl) rfl rfl (by decide) rfl rfl rfl (Nat.le_of_ble_eq_true rfl) rfl (gFit_rm (by decide) (by decide)) rfl ?_
            refine go_iload (q := 7) (gDec iX10_addContour_ok 3 rfl) rfl rfl ?_
            refine go_iconst (v := 1) (q := 8) (gDec iX10_addContour_ok 4 rfl) (by decide) rfl ?_
            refine go_icmp_lt (t := 17) (q := 11) (gDec iX10_addContour_ok 5 rfl) (by decide) rfl (fun c8 => False.elim (h5 c8)) (fun c8 => ?_)
            refine go_iload (q := 13) (gDec iX10_addContour_ok 6 rfl) rfl rfl ?_
            refine go_iconst (v := 1) (q := 14) (gDec iX10_addContour_ok 7 rfl) (by decide) rfl ?_
            refine go_icmp_ge (t := 27) (q := 17) (gDec iX10_addContour_ok 8 rfl) (by decide) rfl (fun c14 => ?_) (fun c14 => False.elim (c14 (Int32.not_lt.mp h6)))
            refine go_iload_n (q := 28) (gDec iX10_addContour_ok 14 rfl) rfl rfl rfl ?_
            refine go_i2l (q := 29) (gDec iX10_addContour_ok 15 rfl) rfl ?_
            refine go_iload_n (q := 30) (gDec iX10_addContour_ok 16 rfl) rfl rfl rfl ?_
            refine go_i2l (q := 31) (gDec iX10_addContour_ok 17 rfl) rfl ?_
            exact go_callS_x kX10_102 (ctX10_requireCoordinates_x (x := x.toInt64) (y := y.toInt64) (by rw [i2l_toInt, i2l_toInt]; exact h7)) (gDec iX10_addContour_ok 18 rfl) rfl rfl (Nat.le_of_ble_eq_true rfl) (gFit_rm (by decide) (by decide)) rfl
  · rw [show fAddContour σ g x y w h = (xIOB, σ) from if_neg h1]
    refine go_aload_n (q := 1) (gDec iX10_addContour_ok 0 rfl) rfl rfl rfl ?_
    refine go_iload_n (q := 2) (gDec iX10_addContour_ok 1 rfl) rfl rfl rfl ?_
    exact go_callV_x kX10_96 (ctX10_requireGlyph_x hW h1) (gDec iX10_addContour_ok 2 rfl) rfl rfl (by decide) rfl rfl rfl (Nat.le_of_ble_eq_true rfl) (gFit_rm (by decide) (by decide)) rfl
