def fAddGlyph (σ : gST) (c : Int32) : gO × gST := if 33 ≤ c.toInt ∧ c.toInt ≤ 126 then
    if gNg σ = 24 ∨ ¬ gFind (σ.1 4) c 0 (gNg σ) = -1 then (xISE, σ) else (rI (nI (gNg σ)), gPut (gPut (gRem σ) 4 (gNg σ) c) 2 5 (nI (gNg σ + 1)))
  else (xIAE, σ)

set_option maxHeartbeats 4000000 in
set_option maxRecDepth 100000 in
theorem ctX10_addGlyph {κ : gK} {σ : gST} {c : Int32} (hW : gDW σ) (hH : gHW σ) : gCt κ mX10_addGlyph 9 [.ref (κ.2.1 + 0), .int c] σ (fAddGlyph σ c).1 (fAddGlyph σ c).2 1 := by
  refine ct_of (by decide +kernel) rfl (Nat.le_of_ble_eq_true rfl) rfl ?_
  by_cases h1 : 33 ≤ c.toInt ∧ c.toInt ≤ 126
  · by_cases h2 : gNg σ = 24
    · rw [show fAddGlyph σ c = (xISE, σ) from (if_pos h1).trans (if_pos (Or.inl h2))]

      refine go_iload_n (q := 1) (gDec iX10_addGlyph_ok 0 rfl) rfl rfl rfl ?_
      refine go_i2l (q := 2) (gDec iX10_addGlyph_ok 1 rfl) rfl ?_
      refine go_ldc2 (q := 5) wX10_55 (gDec iX10_addGlyph_ok 2 rfl) rfl ?_
      refine go_ldc2 (q := 8) wX10_57 (gDec iX10_addGlyph_ok 3 rfl) rfl ?_
      refine go_callS (n2 := 0) (q := 11) kX10_59 ctX10_isWithin (gDec iX10_addGlyph_ok 4 rfl) rfl rfl (Nat.le_of_ble_eq_true rfl) rfl (gFit_rm (by decide) (by decide)) rfl ?_
      refine go_top (v' := 1) (gWi_t (by rw [i2l_toInt]; exact h1)) ?_
      refine go_if_ne (t := 24) (q := 14) (gDec iX10_addGlyph_ok 5 rfl) (by decide) rfl (fun c11 => ?_) (fun c11 => False.elim (absurd c11 (by decide)))
      refine go_aload_n (q := 25) (gDec iX10_addGlyph_ok 11 rfl) rfl rfl rfl ?_
      refine go_getr (r' := 1) (q := 28) fX10_10 (gDec iX10_addGlyph_ok 12 rfl) rfl (by decide) rfl ?_
      refine go_getr (r' := 2) (q := 31) fX10_70 (gDec iX10_addGlyph_ok 13 rfl) rfl (by decide) rfl ?_
      refine go_callV (n2 := 0) (q := 34) kX10_74 (ctX5_isFull (n := gNg σ) hW.ng hW.ng24) (gDec iX10_addGlyph_ok 14 rfl) rfl rfl (by decide) rfl rfl rfl (Nat.le_of_ble_eq_true rfl) rfl (gFit_rm (by decide) (by decide)) rfl ?_
      refine go_if_ne (t := 52) (q := 37) (gDec iX10_addGlyph_ok 15 rfl) (by decide) rfl (fun c34 => ?_) (fun c34 => False.elim (by rw [if_pos h2] at c34; exact absurd c34 (by decide)))
      exact go_throw th_IllegalStateException (List.mem_of_getElem? (i := 1) rfl) rfl rfl (gDec iX10_addGlyph_ok 23 rfl) (gDec iX10_addGlyph_ok 24 rfl) (gDec iX10_addGlyph_ok 25 rfl) (gDec iX10_addGlyph_ok 26 rfl) (gDec iX10_addGlyph_ok 27 rfl) (by decide) (by decide)
    · by_cases h3 : gFind (σ.1 4) c 0 (gNg σ) = -1
      · rw [show fAddGlyph σ c = (rI (nI (gNg σ)), gPut (gPut (gRem σ) 4 (gNg σ) c) 2 5 (nI (gNg σ + 1))) from (if_pos h1).trans (if_neg (fun h9 => h9.elim h2 (fun h8 => h8 h3)))]

        refine go_iload_n (q := 1) (gDec iX10_addGlyph_ok 0 rfl) rfl rfl rfl ?_
        refine go_i2l (q := 2) (gDec iX10_addGlyph_ok 1 rfl) rfl ?_
        refine go_ldc2 (q := 5) wX10_55 (gDec iX10_addGlyph_ok 2 rfl) rfl ?_
        refine go_ldc2 (q := 8) wX10_57 (gDec iX10_addGlyph_ok 3 rfl) rfl ?_
        refine go_callS (n2 := 0) (q := 11) kX10_59 ctX10_isWithin (gDec iX10_addGlyph_ok 4 rfl) rfl rfl (Nat.le_of_ble_eq_true rfl) rfl (gFit_rm (by decide) (by decide)) rfl ?_
        refine go_top (v' := 1) (gWi_t (by rw [i2l_toInt]; exact h1)) ?_
        refine go_if_ne (t := 24) (q := 14) (gDec iX10_addGlyph_ok 5 rfl) (by decide) rfl (fun c11 => ?_) (fun c11 => False.elim (absurd c11 (by decide)))
        refine go_aload_n (q := 25) (gDec iX10_addGlyph_ok 11 rfl) rfl rfl rfl ?_
        refine go_getr (r' := 1) (q := 28) fX10_10 (gDec iX10_addGlyph_ok 12 rfl) rfl (by decide) rfl ?_
        refine go_getr (r' := 2) (q := 31) fX10_70 (gDec iX10_addGlyph_ok 13 rfl) rfl (by decide) rfl ?_
        refine go_callV (n2 := 0) (q := 34) kX10_74 (ctX5_isFull (n := gNg σ) hW.ng hW.ng24) (gDec iX10_addGlyph_ok 14 rfl) rfl rfl (by decide) rfl rfl rfl (Nat.le_of_ble_eq_true rfl) rfl (gFit_rm (by decide) (by decide)) rfl ?_
        refine go_if_ne (t := 52) (q := 37) (gDec iX10_addGlyph_ok 15 rfl) (by decide) rfl (fun c34 => False.elim (by rw [if_neg h2] at c34; exact c34 rfl)) (fun c34 => ?_)
        refine go_aload_n (q := 38) (gDec iX10_addGlyph_ok 16 rfl) rfl rfl rfl ?_
        refine go_getr (r' := 1) (q := 41) fX10_10 (gDec iX10_addGlyph_ok 17 rfl) rfl (by decide) rfl ?_
        refine go_getr (r' := 2) (q := 44) fX10_70 (gDec iX10_addGlyph_ok 18 rfl) rfl (by decide) rfl ?_
        refine go_iload_n (q := 45) (gDec iX10_addGlyph_ok 19 rfl) rfl rfl rfl ?_
        refine go_callV (n2 := 0) (q := 48) kX10_80 (ctX5_glyphWith (N := gNg σ) hW.ng24 hW.ng) (gDec iX10_addGlyph_ok 20 rfl) rfl rfl (by decide) rfl rfl rfl (Nat.le_of_ble_eq_true rfl) rfl (gFit_rm (by decide) (by decide)) rfl ?_
        refine go_iconst (v := (-1)) (q := 49) (gDec iX10_addGlyph_ok 21 rfl) (by decide) rfl ?_
        refine go_icmp_eq (t := 62) (q := 52) (gDec iX10_addGlyph_ok 22 rfl) (by decide) rfl (fun c49 => ?_) (fun c49 => False.elim (c49 h3))
        refine go_aload_n (q := 63) (gDec iX10_addGlyph_ok 28 rfl) rfl rfl rfl ?_
        refine go_getr (r' := 71) (q := 66) fX10_22 (gDec iX10_addGlyph_ok 29 rfl) rfl (by decide) rfl ?_
        refine go_aload_n (q := 67) (gDec iX10_addGlyph_ok 30 rfl) rfl rfl rfl ?_
        refine go_getr (r' := 1) (q := 70) fX10_10 (gDec iX10_addGlyph_ok 31 rfl) rfl (by decide) rfl ?_
        refine go_callV (n2 := 0) (q := 73) kX10_89 (ctX3_rem hH) (gDec iX10_addGlyph_ok 32 rfl) rfl rfl (by decide) rfl rfl rfl (Nat.le_of_ble_eq_true rfl) rfl (gFit_rm (by decide) (by decide)) rfl ?_
        refine go_aload_n (q := 74) (gDec iX10_addGlyph_ok 33 rfl) rfl rfl rfl ?_
        refine go_getr (r' := 1) (q := 77) fX10_10 (gDec iX10_addGlyph_ok 34 rfl) rfl (by decide) rfl ?_
        refine go_getr (r' := 2) (q := 80) fX10_70 (gDec iX10_addGlyph_ok 35 rfl) rfl (by decide) rfl ?_
        refine go_iload_n (q := 81) (gDec iX10_addGlyph_ok 36 rfl) rfl rfl rfl ?_
        refine go_callV (n2 := 0) (q := 84) kX10_93 (ctX5_addEmptyGlyph (n := gNg σ) (((congrFun ((gRem_D σ) 2 (by decide)) 5)).trans hW.ng) (by have := hW.ng24; omega)) (gDec iX10_addGlyph_ok 37 rfl) rfl rfl (by decide) rfl rfl rfl (Nat.le_of_ble_eq_true rfl) rfl (gFit_rm (by decide) (by decide)) rfl ?_
        exact go_ireturn (gDec iX10_addGlyph_ok 38 rfl) rfl rfl rfl rfl (by decide)
      · rw [show fAddGlyph σ c = (xISE, σ) from (if_pos h1).trans (if_pos (Or.inr h3))]

        refine go_iload_n (q := 1) (gDec iX10_addGlyph_ok 0 rfl) rfl rfl rfl ?_
        refine go_i2l (q := 2) (gDec iX10_addGlyph_ok 1 rfl) rfl ?_
        refine go_ldc2 (q := 5) wX10_55 (gDec iX10_addGlyph_ok 2 rfl) rfl ?_
        refine go_ldc2 (q := 8) wX10_57 (gDec iX10_addGlyph_ok 3 rfl) rfl ?_
        refine go_callS (n2 := 0) (q := 11) kX10_59 ctX10_isWithin (gDec iX10_addGlyph_ok 4 rfl) rfl rfl (Nat.le_of_ble_eq_true rfl) rfl (gFit_rm (by decide) (by decide)) rfl ?_
        refine go_top (v' := 1) (gWi_t (by rw [i2l_toInt]; exact h1)) ?_
        refine go_if_ne (t := 24) (q := 14) (gDec iX10_addGlyph_ok 5 rfl) (by decide) rfl (fun c11 => ?_) (fun c11 => False.elim (absurd c11 (by decide)))
        refine go_aload_n (q := 25) (gDec iX10_addGlyph_ok 11 rfl) rfl rfl rfl ?_
        refine go_getr (r' := 1) (q := 28) fX10_10 (gDec iX10_addGlyph_ok 12 rfl) rfl (by decide) rfl ?_
        refine go_getr (r' := 2) (q := 31) fX10_70 (gDec iX10_addGlyph_ok 13 rfl) rfl (by decide) rfl ?_
        refine go_callV (n2 := 0) (q := 34) kX10_74 (ctX5_isFull (n := gNg σ) hW.ng hW.ng24) (gDec iX10_addGlyph_ok 14 rfl) rfl rfl (by decide) rfl rfl rfl (Nat.le_of_ble_eq_true rfl) rfl (gFit_rm (by decide) (by decide)) rfl ?_
        refine go_if_ne (t := 52) (q := 37) (gDec iX10_addGlyph_ok 15 rfl) (by decide) rfl (fun c34 => False.elim (by rw [if_neg h2] at c34; exact c34 rfl)) (fun c34 => ?_)
        refine go_aload_n (q := 38) (gDec iX10_addGlyph_ok 16 rfl) rfl rfl rfl ?_
        refine go_getr (r' := 1) (q := 41) fX10_10 (gDec iX10_addGlyph_ok 17 rfl) rfl (by decide) rfl ?_
        refine go_getr (r' := 2) (q := 44) fX10_70 (gDec iX10_addGlyph_ok 18 rfl) rfl (by decide) rfl ?_
        refine go_iload_n (q := 45) (gDec iX10_addGlyph_ok 19 rfl) rfl rfl rfl ?_
        refine go_callV (n2 := 0) (q := 48) kX10_80 (ctX5_glyphWith (N := gNg σ) hW.ng24 hW.ng) (gDec iX10_addGlyph_ok 20 rfl) rfl rfl (by decide) rfl rfl rfl (Nat.le_of_ble_eq_true rfl) rfl (gFit_rm (by decide) (by decide)) rfl ?_
        refine go_iconst (v := (-1)) (q := 49) (gDec iX10_addGlyph_ok 21 rfl) (by decide) rfl ?_
        refine go_icmp_eq (t := 62) (q := 52) (gDec iX10_addGlyph_ok 22 rfl) (by decide) rfl (fun c49 => False.elim (h3 c49)) (fun c49 => ?_)
        exact go_throw th_IllegalStateException (List.mem_of_getElem? (i := 1) rfl) rfl rfl (gDec iX10_addGlyph_ok 23 rfl) (gDec iX10_addGlyph_ok 24 rfl) (gDec iX10_addGlyph_ok 25 rfl) (gDec iX10_addGlyph_ok 26 rfl) (gDec iX10_addGlyph_ok 27 rfl) (by decide) (by decide)
  · rw [show fAddGlyph σ c = (xIAE, σ) from if_neg h1]

    refine go_iload_n (q := 1) (gDec iX10_addGlyph_ok 0 rfl) rfl rfl rfl ?_
    refine go_i2l (q := 2) (gDec iX10_addGlyph_ok 1 rfl) rfl ?_
    refine go_ldc2 (q := 5) wX10_55 (gDec iX10_addGlyph_ok 2 rfl) rfl ?_
    refine go_ldc2 (q := 8) wX10_57 (gDec iX10_addGlyph_ok 3 rfl) rfl ?_
    refine go_callS (n2 := 0) (q := 11) kX10_59 ctX10_isWithin (gDec iX10_addGlyph_ok 4 rfl) rfl rfl (Nat.le_of_ble_eq_true rfl) rfl (gFit_rm (by decide) (by decide)) rfl ?_
    refine go_top (v' := 0) (gWi_f (by rw [i2l_toInt]; exact h1)) ?_
    refine go_if_ne (t := 24) (q := 14) (gDec iX10_addGlyph_ok 5 rfl) (by decide) rfl (fun c11 => False.elim (c11 rfl)) (fun c11 => ?_)
    exact go_throw th_IllegalArgumentException (List.mem_of_getElem? (i := 0) rfl) rfl rfl (gDec iX10_addGlyph_ok 6 rfl) (gDec iX10_addGlyph_ok 7 rfl) (gDec iX10_addGlyph_ok 8 rfl) (gDec iX10_addGlyph_ok 9 rfl) (gDec iX10_addGlyph_ok 10 rfl) (by decide) (by decide)
