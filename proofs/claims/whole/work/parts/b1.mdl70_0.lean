set_option maxHeartbeats 4000000 in
set_option maxRecDepth 100000 in
theorem lw_c0 {κ : gK} {hs : List (Nat × Nat × Nat × Nat)} {R : Room} {Z : gZ} {σ : gST} {n i : Nat} (h : gJ σ) (hi : i + 6 ≤ κ.2.2.2.2.2.1) (hL : κ.2.2.2.2.2.1 ≤ 3072) (hR : ∀ d m, d ≤ 10 → m ≤ n + 1 → gFit R d m) (hk : ∀ σ', gJ σ' → Go κ (mLw hs) R Z 2942 [(0, .ref κ.2.2.2.2.1), (1, .ref (κ.2.1 + 0)), (2, .ref (κ.2.1 + 376)), (3, .ref (κ.2.1 + 390)), (4, .ref (κ.2.1 + 391)), (5, .int (nI i))] [] σ' (n + 1)) : Go κ (mLw hs) R Z 220 [(0, .ref κ.2.2.2.2.1), (1, .ref (κ.2.1 + 0)), (2, .ref (κ.2.1 + 376)), (3, .ref (κ.2.1 + 390)), (4, .ref (κ.2.1 + 391)), (5, .int (nI i))] [] σ n := by
  obtain ⟨s', c1, c2, c3, c4⟩ := j_addGlyph (κ := κ) (σ := σ) (a1 := (gX κ (i + 1))) h
  refine go_aload_n (q := 221) (gDec (iLw0_0_ok hs) 28 rfl) rfl rfl rfl ?_
  refine go_aload_n (q := 222) (gDec (iLw0_0_ok hs) 29 rfl) rfl rfl rfl ?_
  refine go_iload (q := 224) (gDec (iLw0_0_ok hs) 30 rfl) rfl rfl ?_
  refine go_iconst (v := nI 1) (q := 225) (gDec (iLw0_0_ok hs) 31 rfl) (by decide) rfl ?_
  refine go_iaddN (c := i + 1) (q := 226) (gDec (iLw0_0_ok hs) 32 rfl) rfl rfl ?_
  refine go_sld (q := 227) (gDec (iLw0_0_ok hs) 33 rfl) (vp_in_nI (by omega) (by omega)) rfl ?_
  refine go_top (v' := gX κ (i + 1)) (rfl) ?_
  refine go_aload_n (q := 228) (gDec (iLw0_0_ok hs) 34 rfl) rfl rfl rfl ?_
  refine go_callH (n2 := n + 1) (q := 231) kL_151 rfl (ctL_addGlyph (κ := κ) (σ := σ) (a1 := (gX κ (i + 1))) h) (gDec (iLw0_0_ok hs) 35 rfl) rfl rfl (Nat.le_of_ble_eq_true rfl) rfl (hR _ _ (by decide) (Nat.le_refl _)) rfl ?_
  refine go_istore (q := 233) (gDec (iLw0_0_ok hs) 36 rfl) (Nat.le_of_ble_eq_true rfl) rfl ?_
  refine go_aload_n (q := 234) (gDec (iLw0_0_ok hs) 37 rfl) rfl rfl rfl ?_
  refine go_aload_n (q := 235) (gDec (iLw0_0_ok hs) 38 rfl) rfl rfl rfl ?_
  refine go_iload (q := 237) (gDec (iLw0_0_ok hs) 39 rfl) rfl rfl ?_
  refine go_iconst (v := nI 1) (q := 238) (gDec (iLw0_0_ok hs) 40 rfl) (by decide) rfl ?_
  refine go_iaddN (c := i + 1) (q := 239) (gDec (iLw0_0_ok hs) 41 rfl) rfl rfl ?_
  refine go_sld (q := 240) (gDec (iLw0_0_ok hs) 42 rfl) (vp_in_nI (by omega) (by omega)) rfl ?_
  refine go_top (v' := gX κ (i + 1)) (rfl) ?_
  refine go_callV (n2 := n + 1) (q := 243) kL_156 c1 (gDec (iLw0_0_ok hs) 43 rfl) rfl rfl (by decide) rfl rfl rfl (Nat.le_of_ble_eq_true rfl) rfl (hR _ _ (by decide) (Nat.le_refl _)) rfl ?_
  refine go_istore (q := 245) (gDec (iLw0_0_ok hs) 44 rfl) (Nat.le_of_ble_eq_true rfl) rfl ?_
  refine go_aload_n (q := 246) (gDec (iLw0_0_ok hs) 45 rfl) rfl rfl rfl ?_
  refine go_callV (n2 := n + 1) (q := 249) kL_157 (ctX11_thrown (κ := κ) (σ := s')) (gDec (iLw0_0_ok hs) 46 rfl) rfl rfl (by decide) rfl rfl rfl (Nat.le_of_ble_eq_true rfl) rfl (hR _ _ (by decide) (Nat.le_refl _)) rfl ?_
  refine go_top (v' := xC kAS (fAddGlyph σ (gX κ (i + 1))).1) (c2) ?_
  refine go_iload (q := 251) (gDec (iLw0_0_ok hs) 47 rfl) rfl rfl ?_
  refine go_icmp_eq (t := 256) (q := 254) (gDec (iLw0_0_ok hs) 48 rfl) (by decide) rfl (fun c251 => ?_) (fun c251 => False.elim (c251 rfl))
  refine go_iload (q := 258) (gDec (iLw0_0_ok hs) 51 rfl) rfl rfl ?_
  refine go_if_ne (t := 273) (q := 261) (gDec (iLw0_0_ok hs) 52 rfl) (by decide) rfl (fun c258 => ?_) (fun c258 => ?_)
  · refine go_goto (t := 2942) (gDec (iLw0_1_ok hs) 2 rfl) (by decide) ?_
    refine go_sub (L' := [(0, .ref κ.2.2.2.2.1), (1, .ref (κ.2.1 + 0)), (2, .ref (κ.2.1 + 376)), (3, .ref (κ.2.1 + 390)), (4, .ref (κ.2.1 + 391)), (5, .int (nI i))]) ⟨rfl, rfl, rfl, rfl, rfl, rfl, trivial⟩ ?_
    exact hk s' c4
  · obtain ⟨v, he⟩ := (r_addGlyph (σ := σ) (a1 := (gX κ (i + 1)))).resolve_right (fun h9 => h9 c258)
    refine go_aload_n (q := 262) (gDec (iLw0_0_ok hs) 53 rfl) rfl rfl rfl ?_
    refine go_iconst (v := 0) (q := 263) (gDec (iLw0_0_ok hs) 54 rfl) (by decide) rfl ?_
    refine go_lald (q := 264) (gDec (iLw0_0_ok hs) 55 rfl) rfl (by decide) vp_00 rfl ?_
    refine go_iload (q := 266) (gDec (iLw0_0_ok hs) 56 rfl) rfl rfl ?_
    refine go_i2l (q := 267) (gDec (iLw0_0_ok hs) 57 rfl) rfl ?_
    refine go_lcmp (q := 268) (gDec (iLw0_0_ok hs) 58 rfl) rfl ?_
    refine go_top (v' := 0) ((lw_cmp he c3)) ?_
    refine go_if_eq (t := 273) (q := 271) (gDec (iLw0_0_ok hs) 59 rfl) (by decide) rfl (fun c268 => ?_) (fun c268 => False.elim (c268 rfl))
    refine go_goto (t := 2942) (gDec (iLw0_1_ok hs) 2 rfl) (by decide) ?_
    refine go_sub (L' := [(0, .ref κ.2.2.2.2.1), (1, .ref (κ.2.1 + 0)), (2, .ref (κ.2.1 + 376)), (3, .ref (κ.2.1 + 390)), (4, .ref (κ.2.1 + 391)), (5, .int (nI i))]) ⟨rfl, rfl, rfl, rfl, rfl, rfl, trivial⟩ ?_
    exact hk s' c4

set_option maxHeartbeats 4000000 in
set_option maxRecDepth 100000 in
theorem lw_c1 {κ : gK} {hs : List (Nat × Nat × Nat × Nat)} {R : Room} {Z : gZ} {σ : gST} {n i : Nat} (h : gJ σ) (hi : i + 6 ≤ κ.2.2.2.2.2.1) (hL : κ.2.2.2.2.2.1 ≤ 3072) (hR : ∀ d m, d ≤ 10 → m ≤ n + 1 → gFit R d m) (hk : ∀ σ', gJ σ' → Go κ (mLw hs) R Z 2942 [(0, .ref κ.2.2.2.2.1), (1, .ref (κ.2.1 + 0)), (2, .ref (κ.2.1 + 376)), (3, .ref (κ.2.1 + 390)), (4, .ref (κ.2.1 + 391)), (5, .int (nI i))] [] σ' (n + 1)) : Go κ (mLw hs) R Z 276 [(0, .ref κ.2.2.2.2.1), (1, .ref (κ.2.1 + 0)), (2, .ref (κ.2.1 + 376)), (3, .ref (κ.2.1 + 390)), (4, .ref (κ.2.1 + 391)), (5, .int (nI i))] [] σ n := by
  obtain ⟨s', c1, c2, c3, c4⟩ := j_addContour (κ := κ) (σ := σ) (a1 := (gX κ (i + 1))) (a2 := (gX κ (i + 2))) (a3 := (gX κ (i + 3))) (a4 := (gX κ (i + 4))) (a5 := (gX κ (i + 5))) h
  refine go_aload_n (q := 277) (gDec (iLw0_1_ok hs) 3 rfl) rfl rfl rfl ?_
  refine go_aload_n (q := 278) (gDec (iLw0_1_ok hs) 4 rfl) rfl rfl rfl ?_
  refine go_iload (q := 280) (gDec (iLw0_1_ok hs) 5 rfl) rfl rfl ?_
  refine go_iconst (v := nI 1) (q := 281) (gDec (iLw0_1_ok hs) 6 rfl) (by decide) rfl ?_
  refine go_iaddN (c := i + 1) (q := 282) (gDec (iLw0_1_ok hs) 7 rfl) rfl rfl ?_
  refine go_sld (q := 283) (gDec (iLw0_1_ok hs) 8 rfl) (vp_in_nI (by omega) (by omega)) rfl ?_
  refine go_top (v' := gX κ (i + 1)) (rfl) ?_
  refine go_aload_n (q := 284) (gDec (iLw0_1_ok hs) 9 rfl) rfl rfl rfl ?_
  refine go_iload (q := 286) (gDec (iLw0_1_ok hs) 10 rfl) rfl rfl ?_
  refine go_iconst (v := nI 2) (q := 287) (gDec (iLw0_1_ok hs) 11 rfl) (by decide) rfl ?_
  refine go_iaddN (c := i + 2) (q := 288) (gDec (iLw0_1_ok hs) 12 rfl) rfl rfl ?_
  refine go_sld (q := 289) (gDec (iLw0_1_ok hs) 13 rfl) (vp_in_nI (by omega) (by omega)) rfl ?_
  refine go_top (v' := gX κ (i + 2)) (rfl) ?_
  refine go_aload_n (q := 290) (gDec (iLw0_1_ok hs) 14 rfl) rfl rfl rfl ?_
  refine go_iload (q := 292) (gDec (iLw0_1_ok hs) 15 rfl) rfl rfl ?_
  refine go_iconst (v := nI 3) (q := 293) (gDec (iLw0_1_ok hs) 16 rfl) (by decide) rfl ?_
  refine go_iaddN (c := i + 3) (q := 294) (gDec (iLw0_1_ok hs) 17 rfl) rfl rfl ?_
  refine go_sld (q := 295) (gDec (iLw0_1_ok hs) 18 rfl) (vp_in_nI (by omega) (by omega)) rfl ?_
  refine go_top (v' := gX κ (i + 3)) (rfl) ?_
  refine go_aload_n (q := 296) (gDec (iLw0_1_ok hs) 19 rfl) rfl rfl rfl ?_
  refine go_iload (q := 298) (gDec (iLw0_1_ok hs) 20 rfl) rfl rfl ?_
  refine go_iconst (v := nI 4) (q := 299) (gDec (iLw0_1_ok hs) 21 rfl) (by decide) rfl ?_
  refine go_iaddN (c := i + 4) (q := 300) (gDec (iLw0_1_ok hs) 22 rfl) rfl rfl ?_
  refine go_sld (q := 301) (gDec (iLw0_1_ok hs) 23 rfl) (vp_in_nI (by omega) (by omega)) rfl ?_
  refine go_top (v' := gX κ (i + 4)) (rfl) ?_
  refine go_aload_n (q := 302) (gDec (iLw0_1_ok hs) 24 rfl) rfl rfl rfl ?_
  refine go_iload (q := 304) (gDec (iLw0_1_ok hs) 25 rfl) rfl rfl ?_
  refine go_iconst (v := nI 5) (q := 305) (gDec (iLw0_1_ok hs) 26 rfl) (by decide) rfl ?_
  refine go_iaddN (c := i + 5) (q := 306) (gDec (iLw0_1_ok hs) 27 rfl) rfl rfl ?_
  refine go_sld (q := 307) (gDec (iLw0_1_ok hs) 28 rfl) (vp_in_nI (by omega) (by omega)) rfl ?_
  refine go_top (v' := gX κ (i + 5)) (rfl) ?_
  refine go_aload_n (q := 308) (gDec (iLw0_1_ok hs) 29 rfl) rfl rfl rfl ?_
  refine go_callH (n2 := n + 1) (q := 311) kL_160 rfl (ctL_addContour (κ := κ) (σ := σ) (a1 := (gX κ (i + 1))) (a2 := (gX κ (i + 2))) (a3 := (gX κ (i + 3))) (a4 := (gX κ (i + 4))) (a5 := (gX κ (i + 5))) h) (gDec (iLw0_1_ok hs) 30 rfl) rfl rfl (Nat.le_of_ble_eq_true rfl) rfl (hR _ _ (by decide) (Nat.le_refl _)) rfl ?_
  refine go_istore (q := 313) (gDec (iLw0_1_ok hs) 31 rfl) (Nat.le_of_ble_eq_true rfl) rfl ?_
  refine go_aload_n (q := 314) (gDec (iLw0_1_ok hs) 32 rfl) rfl rfl rfl ?_
  refine go_aload_n (q := 315) (gDec (iLw0_1_ok hs) 33 rfl) rfl rfl rfl ?_
  refine go_iload (q := 317) (gDec (iLw0_1_ok hs) 34 rfl) rfl rfl ?_
  refine go_iconst (v := nI 1) (q := 318) (gDec (iLw0_1_ok hs) 35 rfl) (by decide) rfl ?_
  refine go_iaddN (c := i + 1) (q := 319) (gDec (iLw0_1_ok hs) 36 rfl) rfl rfl ?_
  refine go_sld (q := 320) (gDec (iLw0_1_ok hs) 37 rfl) (vp_in_nI (by omega) (by omega)) rfl ?_
  refine go_top (v' := gX κ (i + 1)) (rfl) ?_
  refine go_aload_n (q := 321) (gDec (iLw0_1_ok hs) 38 rfl) rfl rfl rfl ?_
  refine go_iload (q := 323) (gDec (iLw0_1_ok hs) 39 rfl) rfl rfl ?_
  refine go_iconst (v := nI 2) (q := 324) (gDec (iLw0_1_ok hs) 40 rfl) (by decide) rfl ?_
  refine go_iaddN (c := i + 2) (q := 325) (gDec (iLw0_1_ok hs) 41 rfl) rfl rfl ?_
  refine go_sld (q := 326) (gDec (iLw0_1_ok hs) 42 rfl) (vp_in_nI (by omega) (by omega)) rfl ?_
  refine go_top (v' := gX κ (i + 2)) (rfl) ?_
  refine go_aload_n (q := 327) (gDec (iLw0_1_ok hs) 43 rfl) rfl rfl rfl ?_
  refine go_iload (q := 329) (gDec (iLw0_1_ok hs) 44 rfl) rfl rfl ?_
  refine go_iconst (v := nI 3) (q := 330) (gDec (iLw0_1_ok hs) 45 rfl) (by decide) rfl ?_
  refine go_iaddN (c := i + 3) (q := 331) (gDec (iLw0_1_ok hs) 46 rfl) rfl rfl ?_
  refine go_sld (q := 332) (gDec (iLw0_1_ok hs) 47 rfl) (vp_in_nI (by omega) (by omega)) rfl ?_
  refine go_top (v' := gX κ (i + 3)) (rfl) ?_
  refine go_aload_n (q := 333) (gDec (iLw0_1_ok hs) 48 rfl) rfl rfl rfl ?_
  refine go_iload (q := 335) (gDec (iLw0_1_ok hs) 49 rfl) rfl rfl ?_
  refine go_iconst (v := nI 4) (q := 336) (gDec (iLw0_1_ok hs) 50 rfl) (by decide) rfl ?_
  refine go_iaddN (c := i + 4) (q := 337) (gDec (iLw0_1_ok hs) 51 rfl) rfl rfl ?_
  refine go_sld (q := 338) (gDec (iLw0_1_ok hs) 52 rfl) (vp_in_nI (by omega) (by omega)) rfl ?_
  refine go_top (v' := gX κ (i + 4)) (rfl) ?_
  refine go_aload_n (q := 339) (gDec (iLw0_1_ok hs) 53 rfl) rfl rfl rfl ?_
  refine go_iload (q := 341) (gDec (iLw0_1_ok hs) 54 rfl) rfl rfl ?_
  refine go_iconst (v := nI 5) (q := 342) (gDec (iLw0_1_ok hs) 55 rfl) (by decide) rfl ?_
  refine go_iaddN (c := i + 5) (q := 343) (gDec (iLw0_1_ok hs) 56 rfl) rfl rfl ?_
  refine go_sld (q := 344) (gDec (iLw0_1_ok hs) 57 rfl) (vp_in_nI (by omega) (by omega)) rfl ?_
  refine go_top (v' := gX κ (i + 5)) (rfl) ?_
  refine go_callV (n2 := n + 1) (q := 347) kL_163 c1 (gDec (iLw0_1_ok hs) 58 rfl) rfl rfl (by decide) rfl rfl rfl (Nat.le_of_ble_eq_true rfl) rfl (hR _ _ (by decide) (Nat.le_refl _)) rfl ?_
  refine go_istore (q := 349) (gDec (iLw0_1_ok hs) 59 rfl) (Nat.le_of_ble_eq_true rfl) rfl ?_
  refine go_aload_n (q := 350) (gDec (iLw0_2_ok hs) 0 rfl) rfl rfl rfl ?_
  refine go_callV (n2 := n + 1) (q := 353) kL_157 (ctX11_thrown (κ := κ) (σ := s')) (gDec (iLw0_2_ok hs) 1 rfl) rfl rfl (by decide) rfl rfl rfl (Nat.le_of_ble_eq_true rfl) rfl (hR _ _ (by decide) (Nat.le_refl _)) rfl ?_
  refine go_top (v' := xC kOAS (fAddContour σ (gX κ (i + 1)) (gX κ (i + 2)) (gX κ (i + 3)) (gX κ (i + 4)) (gX κ (i + 5))).1) (c2) ?_
  refine go_iload (q := 355) (gDec (iLw0_2_ok hs) 2 rfl) rfl rfl ?_
  refine go_icmp_eq (t := 360) (q := 358) (gDec (iLw0_2_ok hs) 3 rfl) (by decide) rfl (fun c355 => ?_) (fun c355 => False.elim (c355 rfl))
  refine go_iload (q := 362) (gDec (iLw0_2_ok hs) 6 rfl) rfl rfl ?_
  refine go_if_ne (t := 377) (q := 365) (gDec (iLw0_2_ok hs) 7 rfl) (by decide) rfl (fun c362 => ?_) (fun c362 => ?_)
  · refine go_goto (t := 2942) (gDec (iLw0_2_ok hs) 17 rfl) (by decide) ?_
    refine go_sub (L' := [(0, .ref κ.2.2.2.2.1), (1, .ref (κ.2.1 + 0)), (2, .ref (κ.2.1 + 376)), (3, .ref (κ.2.1 + 390)), (4, .ref (κ.2.1 + 391)), (5, .int (nI i))]) ⟨rfl, rfl, rfl, rfl, rfl, rfl, trivial⟩ ?_
    exact hk s' c4
  · obtain ⟨v, he⟩ := (r_addContour (σ := σ) (a1 := (gX κ (i + 1))) (a2 := (gX κ (i + 2))) (a3 := (gX κ (i + 3))) (a4 := (gX κ (i + 4))) (a5 := (gX κ (i + 5)))).resolve_right (fun h9 => h9 c362)
    refine go_aload_n (q := 366) (gDec (iLw0_2_ok hs) 8 rfl) rfl rfl rfl ?_
    refine go_iconst (v := 0) (q := 367) (gDec (iLw0_2_ok hs) 9 rfl) (by decide) rfl ?_
    refine go_lald (q := 368) (gDec (iLw0_2_ok hs) 10 rfl) rfl (by decide) vp_00 rfl ?_
    refine go_iload (q := 370) (gDec (iLw0_2_ok hs) 11 rfl) rfl rfl ?_
    refine go_i2l (q := 371) (gDec (iLw0_2_ok hs) 12 rfl) rfl ?_
    refine go_lcmp (q := 372) (gDec (iLw0_2_ok hs) 13 rfl) rfl ?_
    refine go_top (v' := 0) ((lw_cmp he c3)) ?_
    refine go_if_eq (t := 377) (q := 375) (gDec (iLw0_2_ok hs) 14 rfl) (by decide) rfl (fun c372 => ?_) (fun c372 => False.elim (c372 rfl))
    refine go_goto (t := 2942) (gDec (iLw0_2_ok hs) 17 rfl) (by decide) ?_
    refine go_sub (L' := [(0, .ref κ.2.2.2.2.1), (1, .ref (κ.2.1 + 0)), (2, .ref (κ.2.1 + 376)), (3, .ref (κ.2.1 + 390)), (4, .ref (κ.2.1 + 391)), (5, .int (nI i))]) ⟨rfl, rfl, rfl, rfl, rfl, rfl, trivial⟩ ?_
    exact hk s' c4

set_option maxHeartbeats 4000000 in
set_option maxRecDepth 100000 in
theorem lw_c2 {κ : gK} {hs : List (Nat × Nat × Nat × Nat)} {R : Room} {Z : gZ} {σ : gST} {n i : Nat} (h : gJ σ) (hi : i + 6 ≤ κ.2.2.2.2.2.1) (hL : κ.2.2.2.2.2.1 ≤ 3072) (hR : ∀ d m, d ≤ 10 → m ≤ n + 1 → gFit R d m) (hk : ∀ σ', gJ σ' → Go κ (mLw hs) R Z 2942 [(0, .ref κ.2.2.2.2.1), (1, .ref (κ.2.1 + 0)), (2, .ref (κ.2.1 + 376)), (3, .ref (κ.2.1 + 390)), (4, .ref (κ.2.1 + 391)), (5, .int (nI i))] [] σ' (n + 1)) : Go κ (mLw hs) R Z 380 [(0, .ref κ.2.2.2.2.1), (1, .ref (κ.2.1 + 0)), (2, .ref (κ.2.1 + 376)), (3, .ref (κ.2.1 + 390)), (4, .ref (κ.2.1 + 391)), (5, .int (nI i))] [] σ n := by
  obtain ⟨s', c1, c2, c3, c4⟩ := j_movePoint (κ := κ) (σ := σ) (a1 := (gX κ (i + 1))) (a2 := (gX κ (i + 2))) (a3 := (gX κ (i + 3))) (a4 := (gX κ (i + 4))) (a5 := (gX κ (i + 5))) h
  refine go_aload_n (q := 381) (gDec (iLw0_2_ok hs) 18 rfl) rfl rfl rfl ?_
  refine go_aload_n (q := 382) (gDec (iLw0_2_ok hs) 19 rfl) rfl rfl rfl ?_
  refine go_iload (q := 384) (gDec (iLw0_2_ok hs) 20 rfl) rfl rfl ?_
  refine go_iconst (v := nI 1) (q := 385) (gDec (iLw0_2_ok hs) 21 rfl) (by decide) rfl ?_
  refine go_iaddN (c := i + 1) (q := 386) (gDec (iLw0_2_ok hs) 22 rfl) rfl rfl ?_
  refine go_sld (q := 387) (gDec (iLw0_2_ok hs) 23 rfl) (vp_in_nI (by omega) (by omega)) rfl ?_
  refine go_top (v' := gX κ (i + 1)) (rfl) ?_
  refine go_aload_n (q := 388) (gDec (iLw0_2_ok hs) 24 rfl) rfl rfl rfl ?_
  refine go_iload (q := 390) (gDec (iLw0_2_ok hs) 25 rfl) rfl rfl ?_
  refine go_iconst (v := nI 2) (q := 391) (gDec (iLw0_2_ok hs) 26 rfl) (by decide) rfl ?_
  refine go_iaddN (c := i + 2) (q := 392) (gDec (iLw0_2_ok hs) 27 rfl) rfl rfl ?_
  refine go_sld (q := 393) (gDec (iLw0_2_ok hs) 28 rfl) (vp_in_nI (by omega) (by omega)) rfl ?_
  refine go_top (v' := gX κ (i + 2)) (rfl) ?_
  refine go_aload_n (q := 394) (gDec (iLw0_2_ok hs) 29 rfl) rfl rfl rfl ?_
  refine go_iload (q := 396) (gDec (iLw0_2_ok hs) 30 rfl) rfl rfl ?_
  refine go_iconst (v := nI 3) (q := 397) (gDec (iLw0_2_ok hs) 31 rfl) (by decide) rfl ?_
  refine go_iaddN (c := i + 3) (q := 398) (gDec (iLw0_2_ok hs) 32 rfl) rfl rfl ?_
  refine go_sld (q := 399) (gDec (iLw0_2_ok hs) 33 rfl) (vp_in_nI (by omega) (by omega)) rfl ?_
  refine go_top (v' := gX κ (i + 3)) (rfl) ?_
  refine go_aload_n (q := 400) (gDec (iLw0_2_ok hs) 34 rfl) rfl rfl rfl ?_
  refine go_iload (q := 402) (gDec (iLw0_2_ok hs) 35 rfl) rfl rfl ?_
  refine go_iconst (v := nI 4) (q := 403) (gDec (iLw0_2_ok hs) 36 rfl) (by decide) rfl ?_
  refine go_iaddN (c := i + 4) (q := 404) (gDec (iLw0_2_ok hs) 37 rfl) rfl rfl ?_
  refine go_sld (q := 405) (gDec (iLw0_2_ok hs) 38 rfl) (vp_in_nI (by omega) (by omega)) rfl ?_
  refine go_top (v' := gX κ (i + 4)) (rfl) ?_
  refine go_aload_n (q := 406) (gDec (iLw0_2_ok hs) 39 rfl) rfl rfl rfl ?_
  refine go_iload (q := 408) (gDec (iLw0_2_ok hs) 40 rfl) rfl rfl ?_
  refine go_iconst (v := nI 5) (q := 409) (gDec (iLw0_2_ok hs) 41 rfl) (by decide) rfl ?_
  refine go_iaddN (c := i + 5) (q := 410) (gDec (iLw0_2_ok hs) 42 rfl) rfl rfl ?_
  refine go_sld (q := 411) (gDec (iLw0_2_ok hs) 43 rfl) (vp_in_nI (by omega) (by omega)) rfl ?_
  refine go_top (v' := gX κ (i + 5)) (rfl) ?_
  refine go_aload_n (q := 412) (gDec (iLw0_2_ok hs) 44 rfl) rfl rfl rfl ?_
  refine go_callH (n2 := n + 1) (q := 415) kL_164 rfl (ctL_movePoint (κ := κ) (σ := σ) (a1 := (gX κ (i + 1))) (a2 := (gX κ (i + 2))) (a3 := (gX κ (i + 3))) (a4 := (gX κ (i + 4))) (a5 := (gX κ (i + 5))) h) (gDec (iLw0_2_ok hs) 45 rfl) rfl rfl (Nat.le_of_ble_eq_true rfl) rfl (hR _ _ (by decide) (Nat.le_refl _)) rfl ?_
  refine go_istore (q := 417) (gDec (iLw0_2_ok hs) 46 rfl) (Nat.le_of_ble_eq_true rfl) rfl ?_
  refine go_aload_n (q := 418) (gDec (iLw0_2_ok hs) 47 rfl) rfl rfl rfl ?_
  refine go_aload_n (q := 419) (gDec (iLw0_2_ok hs) 48 rfl) rfl rfl rfl ?_
  refine go_iload (q := 421) (gDec (iLw0_2_ok hs) 49 rfl) rfl rfl ?_
  refine go_iconst (v := nI 1) (q := 422) (gDec (iLw0_2_ok hs) 50 rfl) (by decide) rfl ?_
  refine go_iaddN (c := i + 1) (q := 423) (gDec (iLw0_2_ok hs) 51 rfl) rfl rfl ?_
  refine go_sld (q := 424) (gDec (iLw0_2_ok hs) 52 rfl) (vp_in_nI (by omega) (by omega)) rfl ?_
  refine go_top (v' := gX κ (i + 1)) (rfl) ?_
  refine go_aload_n (q := 425) (gDec (iLw0_2_ok hs) 53 rfl) rfl rfl rfl ?_
  refine go_iload (q := 427) (gDec (iLw0_2_ok hs) 54 rfl) rfl rfl ?_
  refine go_iconst (v := nI 2) (q := 428) (gDec (iLw0_2_ok hs) 55 rfl) (by decide) rfl ?_
  refine go_iaddN (c := i + 2) (q := 429) (gDec (iLw0_2_ok hs) 56 rfl) rfl rfl ?_
  refine go_sld (q := 430) (gDec (iLw0_2_ok hs) 57 rfl) (vp_in_nI (by omega) (by omega)) rfl ?_
  refine go_top (v' := gX κ (i + 2)) (rfl) ?_
  refine go_aload_n (q := 431) (gDec (iLw0_2_ok hs) 58 rfl) rfl rfl rfl ?_
  refine go_iload (q := 433) (gDec (iLw0_2_ok hs) 59 rfl) rfl rfl ?_
  refine go_iconst (v := nI 3) (q := 434) (gDec (iLw0_3_ok hs) 0 rfl) (by decide) rfl ?_
  refine go_iaddN (c := i + 3) (q := 435) (gDec (iLw0_3_ok hs) 1 rfl) rfl rfl ?_
  refine go_sld (q := 436) (gDec (iLw0_3_ok hs) 2 rfl) (vp_in_nI (by omega) (by omega)) rfl ?_
  refine go_top (v' := gX κ (i + 3)) (rfl) ?_
  refine go_aload_n (q := 437) (gDec (iLw0_3_ok hs) 3 rfl) rfl rfl rfl ?_
  refine go_iload (q := 439) (gDec (iLw0_3_ok hs) 4 rfl) rfl rfl ?_
  refine go_iconst (v := nI 4) (q := 440) (gDec (iLw0_3_ok hs) 5 rfl) (by decide) rfl ?_
  refine go_iaddN (c := i + 4) (q := 441) (gDec (iLw0_3_ok hs) 6 rfl) rfl rfl ?_
  refine go_sld (q := 442) (gDec (iLw0_3_ok hs) 7 rfl) (vp_in_nI (by omega) (by omega)) rfl ?_
  refine go_top (v' := gX κ (i + 4)) (rfl) ?_
  refine go_aload_n (q := 443) (gDec (iLw0_3_ok hs) 8 rfl) rfl rfl rfl ?_
  refine go_iload (q := 445) (gDec (iLw0_3_ok hs) 9 rfl) rfl rfl ?_
  refine go_iconst (v := nI 5) (q := 446) (gDec (iLw0_3_ok hs) 10 rfl) (by decide) rfl ?_
  refine go_iaddN (c := i + 5) (q := 447) (gDec (iLw0_3_ok hs) 11 rfl) rfl rfl ?_
  refine go_sld (q := 448) (gDec (iLw0_3_ok hs) 12 rfl) (vp_in_nI (by omega) (by omega)) rfl ?_
  refine go_top (v' := gX κ (i + 5)) (rfl) ?_
  refine go_callV (n2 := n + 1) (q := 451) kL_166 c1 (gDec (iLw0_3_ok hs) 13 rfl) rfl rfl (by decide) rfl rfl rfl (Nat.le_of_ble_eq_true rfl) rfl (hR _ _ (by decide) (Nat.le_refl _)) rfl ?_
  refine go_istore (q := 453) (gDec (iLw0_3_ok hs) 14 rfl) (Nat.le_of_ble_eq_true rfl) rfl ?_
  refine go_aload_n (q := 454) (gDec (iLw0_3_ok hs) 15 rfl) rfl rfl rfl ?_
  refine go_callV (n2 := n + 1) (q := 457) kL_157 (ctX11_thrown (κ := κ) (σ := s')) (gDec (iLw0_3_ok hs) 16 rfl) rfl rfl (by decide) rfl rfl rfl (Nat.le_of_ble_eq_true rfl) rfl (hR _ _ (by decide) (Nat.le_refl _)) rfl ?_
  refine go_top (v' := xC kOA (fMovePoint σ (gX κ (i + 1)) (gX κ (i + 2)) (gX κ (i + 3)) (gX κ (i + 4)) (gX κ (i + 5))).1) (c2) ?_
  refine go_iload (q := 459) (gDec (iLw0_3_ok hs) 17 rfl) rfl rfl ?_
  refine go_icmp_eq (t := 464) (q := 462) (gDec (iLw0_3_ok hs) 18 rfl) (by decide) rfl (fun c459 => ?_) (fun c459 => False.elim (c459 rfl))
  refine go_iload (q := 466) (gDec (iLw0_3_ok hs) 21 rfl) rfl rfl ?_
  refine go_if_ne (t := 481) (q := 469) (gDec (iLw0_3_ok hs) 22 rfl) (by decide) rfl (fun c466 => ?_) (fun c466 => ?_)
  · refine go_goto (t := 2942) (gDec (iLw0_3_ok hs) 32 rfl) (by decide) ?_
    refine go_sub (L' := [(0, .ref κ.2.2.2.2.1), (1, .ref (κ.2.1 + 0)), (2, .ref (κ.2.1 + 376)), (3, .ref (κ.2.1 + 390)), (4, .ref (κ.2.1 + 391)), (5, .int (nI i))]) ⟨rfl, rfl, rfl, rfl, rfl, rfl, trivial⟩ ?_
    exact hk s' c4
  · obtain ⟨v, he⟩ := (r_movePoint (σ := σ) (a1 := (gX κ (i + 1))) (a2 := (gX κ (i + 2))) (a3 := (gX κ (i + 3))) (a4 := (gX κ (i + 4))) (a5 := (gX κ (i + 5)))).resolve_right (fun h9 => h9 c466)
    refine go_aload_n (q := 470) (gDec (iLw0_3_ok hs) 23 rfl) rfl rfl rfl ?_
    refine go_iconst (v := 0) (q := 471) (gDec (iLw0_3_ok hs) 24 rfl) (by decide) rfl ?_
    refine go_lald (q := 472) (gDec (iLw0_3_ok hs) 25 rfl) rfl (by decide) vp_00 rfl ?_
    refine go_iload (q := 474) (gDec (iLw0_3_ok hs) 26 rfl) rfl rfl ?_
    refine go_i2l (q := 475) (gDec (iLw0_3_ok hs) 27 rfl) rfl ?_
    refine go_lcmp (q := 476) (gDec (iLw0_3_ok hs) 28 rfl) rfl ?_
    refine go_top (v' := 0) ((lw_cmp he c3)) ?_
    refine go_if_eq (t := 481) (q := 479) (gDec (iLw0_3_ok hs) 29 rfl) (by decide) rfl (fun c476 => ?_) (fun c476 => False.elim (c476 rfl))
    refine go_goto (t := 2942) (gDec (iLw0_3_ok hs) 32 rfl) (by decide) ?_
    refine go_sub (L' := [(0, .ref κ.2.2.2.2.1), (1, .ref (κ.2.1 + 0)), (2, .ref (κ.2.1 + 376)), (3, .ref (κ.2.1 + 390)), (4, .ref (κ.2.1 + 391)), (5, .int (nI i))]) ⟨rfl, rfl, rfl, rfl, rfl, rfl, trivial⟩ ?_
    exact hk s' c4

set_option maxHeartbeats 4000000 in
set_option maxRecDepth 100000 in
theorem lw_c3 {κ : gK} {hs : List (Nat × Nat × Nat × Nat)} {R : Room} {Z : gZ} {σ : gST} {n i : Nat} (h : gJ σ) (hi : i + 6 ≤ κ.2.2.2.2.2.1) (hL : κ.2.2.2.2.2.1 ≤ 3072) (hR : ∀ d m, d ≤ 10 → m ≤ n + 1 → gFit R d m) (hk : ∀ σ', gJ σ' → Go κ (mLw hs) R Z 2942 [(0, .ref κ.2.2.2.2.1), (1, .ref (κ.2.1 + 0)), (2, .ref (κ.2.1 + 376)), (3, .ref (κ.2.1 + 390)), (4, .ref (κ.2.1 + 391)), (5, .int (nI i))] [] σ' (n + 1)) : Go κ (mLw hs) R Z 484 [(0, .ref κ.2.2.2.2.1), (1, .ref (κ.2.1 + 0)), (2, .ref (κ.2.1 + 376)), (3, .ref (κ.2.1 + 390)), (4, .ref (κ.2.1 + 391)), (5, .int (nI i))] [] σ n := by
  obtain ⟨s', c1, c2, c3, c4⟩ := j_shift (κ := κ) (σ := σ) (a1 := (gX κ (i + 1))) (a2 := (gX κ (i + 2))) (a3 := (gX κ (i + 3))) h
  refine go_aload_n (q := 485) (gDec (iLw0_3_ok hs) 33 rfl) rfl rfl rfl ?_
  refine go_aload_n (q := 486) (gDec (iLw0_3_ok hs) 34 rfl) rfl rfl rfl ?_
  refine go_iload (q := 488) (gDec (iLw0_3_ok hs) 35 rfl) rfl rfl ?_
  refine go_iconst (v := nI 1) (q := 489) (gDec (iLw0_3_ok hs) 36 rfl) (by decide) rfl ?_
  refine go_iaddN (c := i + 1) (q := 490) (gDec (iLw0_3_ok hs) 37 rfl) rfl rfl ?_
  refine go_sld (q := 491) (gDec (iLw0_3_ok hs) 38 rfl) (vp_in_nI (by omega) (by omega)) rfl ?_
  refine go_top (v' := gX κ (i + 1)) (rfl) ?_
  refine go_aload_n (q := 492) (gDec (iLw0_3_ok hs) 39 rfl) rfl rfl rfl ?_
  refine go_iload (q := 494) (gDec (iLw0_3_ok hs) 40 rfl) rfl rfl ?_
  refine go_iconst (v := nI 2) (q := 495) (gDec (iLw0_3_ok hs) 41 rfl) (by decide) rfl ?_
  refine go_iaddN (c := i + 2) (q := 496) (gDec (iLw0_3_ok hs) 42 rfl) rfl rfl ?_
  refine go_sld (q := 497) (gDec (iLw0_3_ok hs) 43 rfl) (vp_in_nI (by omega) (by omega)) rfl ?_
  refine go_top (v' := gX κ (i + 2)) (rfl) ?_
  refine go_aload_n (q := 498) (gDec (iLw0_3_ok hs) 44 rfl) rfl rfl rfl ?_
  refine go_iload (q := 500) (gDec (iLw0_3_ok hs) 45 rfl) rfl rfl ?_
  refine go_iconst (v := nI 3) (q := 501) (gDec (iLw0_3_ok hs) 46 rfl) (by decide) rfl ?_
  refine go_iaddN (c := i + 3) (q := 502) (gDec (iLw0_3_ok hs) 47 rfl) rfl rfl ?_
  refine go_sld (q := 503) (gDec (iLw0_3_ok hs) 48 rfl) (vp_in_nI (by omega) (by omega)) rfl ?_
  refine go_top (v' := gX κ (i + 3)) (rfl) ?_
  refine go_aload_n (q := 504) (gDec (iLw0_3_ok hs) 49 rfl) rfl rfl rfl ?_
  refine go_callH (n2 := n + 1) (q := 507) kL_167 rfl (ctL_shift (κ := κ) (σ := σ) (a1 := (gX κ (i + 1))) (a2 := (gX κ (i + 2))) (a3 := (gX κ (i + 3))) h) (gDec (iLw0_3_ok hs) 50 rfl) rfl rfl (Nat.le_of_ble_eq_true rfl) rfl (hR _ _ (by decide) (Nat.le_refl _)) rfl ?_
  refine go_istore (q := 509) (gDec (iLw0_3_ok hs) 51 rfl) (Nat.le_of_ble_eq_true rfl) rfl ?_
  refine go_aload_n (q := 510) (gDec (iLw0_3_ok hs) 52 rfl) rfl rfl rfl ?_
  refine go_aload_n (q := 511) (gDec (iLw0_3_ok hs) 53 rfl) rfl rfl rfl ?_
  refine go_iload (q := 513) (gDec (iLw0_3_ok hs) 54 rfl) rfl rfl ?_
  refine go_iconst (v := nI 1) (q := 514) (gDec (iLw0_3_ok hs) 55 rfl) (by decide) rfl ?_
  refine go_iaddN (c := i + 1) (q := 515) (gDec (iLw0_3_ok hs) 56 rfl) rfl rfl ?_
  refine go_sld (q := 516) (gDec (iLw0_3_ok hs) 57 rfl) (vp_in_nI (by omega) (by omega)) rfl ?_
  refine go_top (v' := gX κ (i + 1)) (rfl) ?_
  refine go_aload_n (q := 517) (gDec (iLw0_3_ok hs) 58 rfl) rfl rfl rfl ?_
  refine go_iload (q := 519) (gDec (iLw0_3_ok hs) 59 rfl) rfl rfl ?_
  refine go_iconst (v := nI 2) (q := 520) (gDec (iLw0_4_ok hs) 0 rfl) (by decide) rfl ?_
  refine go_iaddN (c := i + 2) (q := 521) (gDec (iLw0_4_ok hs) 1 rfl) rfl rfl ?_
  refine go_sld (q := 522) (gDec (iLw0_4_ok hs) 2 rfl) (vp_in_nI (by omega) (by omega)) rfl ?_
  refine go_top (v' := gX κ (i + 2)) (rfl) ?_
  refine go_aload_n (q := 523) (gDec (iLw0_4_ok hs) 3 rfl) rfl rfl rfl ?_
  refine go_iload (q := 525) (gDec (iLw0_4_ok hs) 4 rfl) rfl rfl ?_
  refine go_iconst (v := nI 3) (q := 526) (gDec (iLw0_4_ok hs) 5 rfl) (by decide) rfl ?_
  refine go_iaddN (c := i + 3) (q := 527) (gDec (iLw0_4_ok hs) 6 rfl) rfl rfl ?_
  refine go_sld (q := 528) (gDec (iLw0_4_ok hs) 7 rfl) (vp_in_nI (by omega) (by omega)) rfl ?_
  refine go_top (v' := gX κ (i + 3)) (rfl) ?_
  refine go_callV (n2 := n + 1) (q := 531) kL_170 c1 (gDec (iLw0_4_ok hs) 8 rfl) rfl rfl (by decide) rfl rfl rfl (Nat.le_of_ble_eq_true rfl) rfl (hR _ _ (by decide) (Nat.le_refl _)) rfl ?_
  refine go_istore (q := 533) (gDec (iLw0_4_ok hs) 9 rfl) (Nat.le_of_ble_eq_true rfl) rfl ?_
  refine go_aload_n (q := 534) (gDec (iLw0_4_ok hs) 10 rfl) rfl rfl rfl ?_
  refine go_callV (n2 := n + 1) (q := 537) kL_157 (ctX11_thrown (κ := κ) (σ := s')) (gDec (iLw0_4_ok hs) 11 rfl) rfl rfl (by decide) rfl rfl rfl (Nat.le_of_ble_eq_true rfl) rfl (hR _ _ (by decide) (Nat.le_refl _)) rfl ?_
  refine go_top (v' := xC kOA (fShift σ (gX κ (i + 1)) (gX κ (i + 2)) (gX κ (i + 3))).1) (c2) ?_
  refine go_iload (q := 539) (gDec (iLw0_4_ok hs) 12 rfl) rfl rfl ?_
  refine go_icmp_eq (t := 544) (q := 542) (gDec (iLw0_4_ok hs) 13 rfl) (by decide) rfl (fun c539 => ?_) (fun c539 => False.elim (c539 rfl))
  refine go_iload (q := 546) (gDec (iLw0_4_ok hs) 16 rfl) rfl rfl ?_
  refine go_if_ne (t := 561) (q := 549) (gDec (iLw0_4_ok hs) 17 rfl) (by decide) rfl (fun c546 => ?_) (fun c546 => ?_)
  · refine go_goto (t := 2942) (gDec (iLw0_4_ok hs) 27 rfl) (by decide) ?_
    refine go_sub (L' := [(0, .ref κ.2.2.2.2.1), (1, .ref (κ.2.1 + 0)), (2, .ref (κ.2.1 + 376)), (3, .ref (κ.2.1 + 390)), (4, .ref (κ.2.1 + 391)), (5, .int (nI i))]) ⟨rfl, rfl, rfl, rfl, rfl, rfl, trivial⟩ ?_
    exact hk s' c4
  · obtain ⟨v, he⟩ := (r_shift (σ := σ) (a1 := (gX κ (i + 1))) (a2 := (gX κ (i + 2))) (a3 := (gX κ (i + 3)))).resolve_right (fun h9 => h9 c546)
    refine go_aload_n (q := 550) (gDec (iLw0_4_ok hs) 18 rfl) rfl rfl rfl ?_
    refine go_iconst (v := 0) (q := 551) (gDec (iLw0_4_ok hs) 19 rfl) (by decide) rfl ?_
    refine go_lald (q := 552) (gDec (iLw0_4_ok hs) 20 rfl) rfl (by decide) vp_00 rfl ?_
    refine go_iload (q := 554) (gDec (iLw0_4_ok hs) 21 rfl) rfl rfl ?_
    refine go_i2l (q := 555) (gDec (iLw0_4_ok hs) 22 rfl) rfl ?_
    refine go_lcmp (q := 556) (gDec (iLw0_4_ok hs) 23 rfl) rfl ?_
    refine go_top (v' := 0) ((lw_cmp he c3)) ?_
    refine go_if_eq (t := 561) (q := 559) (gDec (iLw0_4_ok hs) 24 rfl) (by decide) rfl (fun c556 => ?_) (fun c556 => False.elim (c556 rfl))
    refine go_goto (t := 2942) (gDec (iLw0_4_ok hs) 27 rfl) (by decide) ?_
    refine go_sub (L' := [(0, .ref κ.2.2.2.2.1), (1, .ref (κ.2.1 + 0)), (2, .ref (κ.2.1 + 376)), (3, .ref (κ.2.1 + 390)), (4, .ref (κ.2.1 + 391)), (5, .int (nI i))]) ⟨rfl, rfl, rfl, rfl, rfl, rfl, trivial⟩ ?_
    exact hk s' c4

set_option maxHeartbeats 4000000 in
set_option maxRecDepth 100000 in
theorem lw_c4 {κ : gK} {hs : List (Nat × Nat × Nat × Nat)} {R : Room} {Z : gZ} {σ : gST} {n i : Nat} (h : gJ σ) (hi : i + 6 ≤ κ.2.2.2.2.2.1) (hL : κ.2.2.2.2.2.1 ≤ 3072) (hR : ∀ d m, d ≤ 10 → m ≤ n + 1 → gFit R d m) (hk : ∀ σ', gJ σ' → Go κ (mLw hs) R Z 2942 [(0, .ref κ.2.2.2.2.1), (1, .ref (κ.2.1 + 0)), (2, .ref (κ.2.1 + 376)), (3, .ref (κ.2.1 + 390)), (4, .ref (κ.2.1 + 391)), (5, .int (nI i))] [] σ' (n + 1)) : Go κ (mLw hs) R Z 564 [(0, .ref κ.2.2.2.2.1), (1, .ref (κ.2.1 + 0)), (2, .ref (κ.2.1 + 376)), (3, .ref (κ.2.1 + 390)), (4, .ref (κ.2.1 + 391)), (5, .int (nI i))] [] σ n := by
  obtain ⟨s', c1, c2, c3, c4⟩ := j_glyph (κ := κ) (σ := σ) (a1 := (gX κ (i + 1))) (a2 := (gX κ (i + 2))) h
  refine go_aload_n (q := 565) (gDec (iLw0_4_ok hs) 28 rfl) rfl rfl rfl ?_
  refine go_aload_n (q := 566) (gDec (iLw0_4_ok hs) 29 rfl) rfl rfl rfl ?_
  refine go_iload (q := 568) (gDec (iLw0_4_ok hs) 30 rfl) rfl rfl ?_
  refine go_iconst (v := nI 1) (q := 569) (gDec (iLw0_4_ok hs) 31 rfl) (by decide) rfl ?_
  refine go_iaddN (c := i + 1) (q := 570) (gDec (iLw0_4_ok hs) 32 rfl) rfl rfl ?_
  refine go_sld (q := 571) (gDec (iLw0_4_ok hs) 33 rfl) (vp_in_nI (by omega) (by omega)) rfl ?_
  refine go_top (v' := gX κ (i + 1)) (rfl) ?_
  refine go_aload_n (q := 572) (gDec (iLw0_4_ok hs) 34 rfl) rfl rfl rfl ?_
  refine go_iload (q := 574) (gDec (iLw0_4_ok hs) 35 rfl) rfl rfl ?_
  refine go_iconst (v := nI 2) (q := 575) (gDec (iLw0_4_ok hs) 36 rfl) (by decide) rfl ?_
  refine go_iaddN (c := i + 2) (q := 576) (gDec (iLw0_4_ok hs) 37 rfl) rfl rfl ?_
  refine go_sld (q := 577) (gDec (iLw0_4_ok hs) 38 rfl) (vp_in_nI (by omega) (by omega)) rfl ?_
  refine go_top (v' := gX κ (i + 2)) (rfl) ?_
  refine go_aload_n (q := 578) (gDec (iLw0_4_ok hs) 39 rfl) rfl rfl rfl ?_
  refine go_callH (n2 := n + 1) (q := 581) kL_171 rfl (ctL_glyph (κ := κ) (σ := σ) (a1 := (gX κ (i + 1))) (a2 := (gX κ (i + 2))) h) (gDec (iLw0_4_ok hs) 40 rfl) rfl rfl (Nat.le_of_ble_eq_true rfl) rfl (hR _ _ (by decide) (Nat.le_refl _)) rfl ?_
  refine go_istore (q := 583) (gDec (iLw0_4_ok hs) 41 rfl) (Nat.le_of_ble_eq_true rfl) rfl ?_
  refine go_aload_n (q := 584) (gDec (iLw0_4_ok hs) 42 rfl) rfl rfl rfl ?_
  refine go_aload_n (q := 585) (gDec (iLw0_4_ok hs) 43 rfl) rfl rfl rfl ?_
  refine go_iload (q := 587) (gDec (iLw0_4_ok hs) 44 rfl) rfl rfl ?_
  refine go_iconst (v := nI 1) (q := 588) (gDec (iLw0_4_ok hs) 45 rfl) (by decide) rfl ?_
  refine go_iaddN (c := i + 1) (q := 589) (gDec (iLw0_4_ok hs) 46 rfl) rfl rfl ?_
  refine go_sld (q := 590) (gDec (iLw0_4_ok hs) 47 rfl) (vp_in_nI (by omega) (by omega)) rfl ?_
  refine go_top (v' := gX κ (i + 1)) (rfl) ?_
  refine go_aload_n (q := 591) (gDec (iLw0_4_ok hs) 48 rfl) rfl rfl rfl ?_
  refine go_iload (q := 593) (gDec (iLw0_4_ok hs) 49 rfl) rfl rfl ?_
  refine go_iconst (v := nI 2) (q := 594) (gDec (iLw0_4_ok hs) 50 rfl) (by decide) rfl ?_
  refine go_iaddN (c := i + 2) (q := 595) (gDec (iLw0_4_ok hs) 51 rfl) rfl rfl ?_
  refine go_sld (q := 596) (gDec (iLw0_4_ok hs) 52 rfl) (vp_in_nI (by omega) (by omega)) rfl ?_
  refine go_top (v' := gX κ (i + 2)) (rfl) ?_
  refine go_callV (n2 := n + 1) (q := 599) kL_174 c1 (gDec (iLw0_4_ok hs) 53 rfl) rfl rfl (by decide) rfl rfl rfl (Nat.le_of_ble_eq_true rfl) rfl (hR _ _ (by decide) (Nat.le_refl _)) rfl ?_
  refine go_istore (q := 601) (gDec (iLw0_4_ok hs) 54 rfl) (Nat.le_of_ble_eq_true rfl) rfl ?_
  refine go_aload_n (q := 602) (gDec (iLw0_4_ok hs) 55 rfl) rfl rfl rfl ?_
  refine go_callV (n2 := n + 1) (q := 605) kL_157 (ctX11_thrown (κ := κ) (σ := s')) (gDec (iLw0_4_ok hs) 56 rfl) rfl rfl (by decide) rfl rfl rfl (Nat.le_of_ble_eq_true rfl) rfl (hR _ _ (by decide) (Nat.le_refl _)) rfl ?_
  refine go_top (v' := xC kOA (fGlyph σ (gX κ (i + 1)) (gX κ (i + 2))).1) (c2) ?_
  refine go_iload (q := 607) (gDec (iLw0_4_ok hs) 57 rfl) rfl rfl ?_
  refine go_icmp_eq (t := 612) (q := 610) (gDec (iLw0_4_ok hs) 58 rfl) (by decide) rfl (fun c607 => ?_) (fun c607 => False.elim (c607 rfl))
  refine go_iload (q := 614) (gDec (iLw0_5_ok hs) 1 rfl) rfl rfl ?_
  refine go_if_ne (t := 629) (q := 617) (gDec (iLw0_5_ok hs) 2 rfl) (by decide) rfl (fun c614 => ?_) (fun c614 => ?_)
  · refine go_goto (t := 2942) (gDec (iLw0_5_ok hs) 12 rfl) (by decide) ?_
    refine go_sub (L' := [(0, .ref κ.2.2.2.2.1), (1, .ref (κ.2.1 + 0)), (2, .ref (κ.2.1 + 376)), (3, .ref (κ.2.1 + 390)), (4, .ref (κ.2.1 + 391)), (5, .int (nI i))]) ⟨rfl, rfl, rfl, rfl, rfl, rfl, trivial⟩ ?_
    exact hk s' c4
  · obtain ⟨v, he⟩ := (r_glyph (σ := σ) (a1 := (gX κ (i + 1))) (a2 := (gX κ (i + 2)))).resolve_right (fun h9 => h9 c614)
    refine go_aload_n (q := 618) (gDec (iLw0_5_ok hs) 3 rfl) rfl rfl rfl ?_
    refine go_iconst (v := 0) (q := 619) (gDec (iLw0_5_ok hs) 4 rfl) (by decide) rfl ?_
    refine go_lald (q := 620) (gDec (iLw0_5_ok hs) 5 rfl) rfl (by decide) vp_00 rfl ?_
    refine go_iload (q := 622) (gDec (iLw0_5_ok hs) 6 rfl) rfl rfl ?_
    refine go_i2l (q := 623) (gDec (iLw0_5_ok hs) 7 rfl) rfl ?_
    refine go_lcmp (q := 624) (gDec (iLw0_5_ok hs) 8 rfl) rfl ?_
    refine go_top (v' := 0) ((lw_cmp he c3)) ?_
    refine go_if_eq (t := 629) (q := 627) (gDec (iLw0_5_ok hs) 9 rfl) (by decide) rfl (fun c624 => ?_) (fun c624 => False.elim (c624 rfl))
    refine go_goto (t := 2942) (gDec (iLw0_5_ok hs) 12 rfl) (by decide) ?_
    refine go_sub (L' := [(0, .ref κ.2.2.2.2.1), (1, .ref (κ.2.1 + 0)), (2, .ref (κ.2.1 + 376)), (3, .ref (κ.2.1 + 390)), (4, .ref (κ.2.1 + 391)), (5, .int (nI i))]) ⟨rfl, rfl, rfl, rfl, rfl, rfl, trivial⟩ ?_
    exact hk s' c4

set_option maxHeartbeats 4000000 in
set_option maxRecDepth 100000 in
theorem lw_c5 {κ : gK} {hs : List (Nat × Nat × Nat × Nat)} {R : Room} {Z : gZ} {σ : gST} {n i : Nat} (h : gJ σ) (hi : i + 6 ≤ κ.2.2.2.2.2.1) (hL : κ.2.2.2.2.2.1 ≤ 3072) (hR : ∀ d m, d ≤ 10 → m ≤ n + 1 → gFit R d m) (hk : ∀ σ', gJ σ' → Go κ (mLw hs) R Z 2942 [(0, .ref κ.2.2.2.2.1), (1, .ref (κ.2.1 + 0)), (2, .ref (κ.2.1 + 376)), (3, .ref (κ.2.1 + 390)), (4, .ref (κ.2.1 + 391)), (5, .int (nI i))] [] σ' (n + 1)) : Go κ (mLw hs) R Z 632 [(0, .ref κ.2.2.2.2.1), (1, .ref (κ.2.1 + 0)), (2, .ref (κ.2.1 + 376)), (3, .ref (κ.2.1 + 390)), (4, .ref (κ.2.1 + 391)), (5, .int (nI i))] [] σ n := by
  obtain ⟨s', c1, c2, c3, c4⟩ := j_find (κ := κ) (σ := σ) (a1 := (gX κ (i + 1))) h
  refine go_aload_n (q := 633) (gDec (iLw0_5_ok hs) 13 rfl) rfl rfl rfl ?_
  refine go_aload_n (q := 634) (gDec (iLw0_5_ok hs) 14 rfl) rfl rfl rfl ?_
  refine go_iload (q := 636) (gDec (iLw0_5_ok hs) 15 rfl) rfl rfl ?_
  refine go_iconst (v := nI 1) (q := 637) (gDec (iLw0_5_ok hs) 16 rfl) (by decide) rfl ?_
  refine go_iaddN (c := i + 1) (q := 638) (gDec (iLw0_5_ok hs) 17 rfl) rfl rfl ?_
  refine go_sld (q := 639) (gDec (iLw0_5_ok hs) 18 rfl) (vp_in_nI (by omega) (by omega)) rfl ?_
  refine go_top (v' := gX κ (i + 1)) (rfl) ?_
  refine go_aload_n (q := 640) (gDec (iLw0_5_ok hs) 19 rfl) rfl rfl rfl ?_
  refine go_callH (n2 := n + 1) (q := 643) kL_175 rfl (ctL_find (κ := κ) (σ := σ) (a1 := (gX κ (i + 1))) h) (gDec (iLw0_5_ok hs) 20 rfl) rfl rfl (Nat.le_of_ble_eq_true rfl) rfl (hR _ _ (by decide) (Nat.le_refl _)) rfl ?_
  refine go_istore (q := 645) (gDec (iLw0_5_ok hs) 21 rfl) (Nat.le_of_ble_eq_true rfl) rfl ?_
  refine go_aload_n (q := 646) (gDec (iLw0_5_ok hs) 22 rfl) rfl rfl rfl ?_
  refine go_aload_n (q := 647) (gDec (iLw0_5_ok hs) 23 rfl) rfl rfl rfl ?_
  refine go_iload (q := 649) (gDec (iLw0_5_ok hs) 24 rfl) rfl rfl ?_
  refine go_iconst (v := nI 1) (q := 650) (gDec (iLw0_5_ok hs) 25 rfl) (by decide) rfl ?_
  refine go_iaddN (c := i + 1) (q := 651) (gDec (iLw0_5_ok hs) 26 rfl) rfl rfl ?_
  refine go_sld (q := 652) (gDec (iLw0_5_ok hs) 27 rfl) (vp_in_nI (by omega) (by omega)) rfl ?_
  refine go_top (v' := gX κ (i + 1)) (rfl) ?_
  refine go_callV (n2 := n + 1) (q := 655) kL_177 c1 (gDec (iLw0_5_ok hs) 28 rfl) rfl rfl (by decide) rfl rfl rfl (Nat.le_of_ble_eq_true rfl) rfl (hR _ _ (by decide) (Nat.le_refl _)) rfl ?_
  refine go_istore (q := 657) (gDec (iLw0_5_ok hs) 29 rfl) (Nat.le_of_ble_eq_true rfl) rfl ?_
  refine go_aload_n (q := 658) (gDec (iLw0_5_ok hs) 30 rfl) rfl rfl rfl ?_
  refine go_callV (n2 := n + 1) (q := 661) kL_157 (ctX11_thrown (κ := κ) (σ := s')) (gDec (iLw0_5_ok hs) 31 rfl) rfl rfl (by decide) rfl rfl rfl (Nat.le_of_ble_eq_true rfl) rfl (hR _ _ (by decide) (Nat.le_refl _)) rfl ?_
  refine go_top (v' := xC kN (fFind σ (gX κ (i + 1))).1) (c2) ?_
  refine go_iload (q := 663) (gDec (iLw0_5_ok hs) 32 rfl) rfl rfl ?_
  refine go_icmp_eq (t := 668) (q := 666) (gDec (iLw0_5_ok hs) 33 rfl) (by decide) rfl (fun c663 => ?_) (fun c663 => False.elim (c663 rfl))
  refine go_iload (q := 670) (gDec (iLw0_5_ok hs) 36 rfl) rfl rfl ?_
  refine go_if_ne (t := 685) (q := 673) (gDec (iLw0_5_ok hs) 37 rfl) (by decide) rfl (fun c670 => ?_) (fun c670 => ?_)
  · refine go_goto (t := 2942) (gDec (iLw0_5_ok hs) 47 rfl) (by decide) ?_
    refine go_sub (L' := [(0, .ref κ.2.2.2.2.1), (1, .ref (κ.2.1 + 0)), (2, .ref (κ.2.1 + 376)), (3, .ref (κ.2.1 + 390)), (4, .ref (κ.2.1 + 391)), (5, .int (nI i))]) ⟨rfl, rfl, rfl, rfl, rfl, rfl, trivial⟩ ?_
    exact hk s' c4
  · obtain ⟨v, he⟩ := (r_find (σ := σ) (a1 := (gX κ (i + 1)))).resolve_right (fun h9 => h9 c670)
    refine go_aload_n (q := 674) (gDec (iLw0_5_ok hs) 38 rfl) rfl rfl rfl ?_
    refine go_iconst (v := 0) (q := 675) (gDec (iLw0_5_ok hs) 39 rfl) (by decide) rfl ?_
    refine go_lald (q := 676) (gDec (iLw0_5_ok hs) 40 rfl) rfl (by decide) vp_00 rfl ?_
    refine go_iload (q := 678) (gDec (iLw0_5_ok hs) 41 rfl) rfl rfl ?_
    refine go_i2l (q := 679) (gDec (iLw0_5_ok hs) 42 rfl) rfl ?_
    refine go_lcmp (q := 680) (gDec (iLw0_5_ok hs) 43 rfl) rfl ?_
    refine go_top (v' := 0) ((lw_cmp he c3)) ?_
    refine go_if_eq (t := 685) (q := 683) (gDec (iLw0_5_ok hs) 44 rfl) (by decide) rfl (fun c680 => ?_) (fun c680 => False.elim (c680 rfl))
    refine go_goto (t := 2942) (gDec (iLw0_5_ok hs) 47 rfl) (by decide) ?_
    refine go_sub (L' := [(0, .ref κ.2.2.2.2.1), (1, .ref (κ.2.1 + 0)), (2, .ref (κ.2.1 + 376)), (3, .ref (κ.2.1 + 390)), (4, .ref (κ.2.1 + 391)), (5, .int (nI i))]) ⟨rfl, rfl, rfl, rfl, rfl, rfl, trivial⟩ ?_
    exact hk s' c4

set_option maxHeartbeats 4000000 in
set_option maxRecDepth 100000 in
theorem lw_c6 {κ : gK} {hs : List (Nat × Nat × Nat × Nat)} {R : Room} {Z : gZ} {σ : gST} {n i : Nat} (h : gJ σ) (hi : i + 6 ≤ κ.2.2.2.2.2.1) (hL : κ.2.2.2.2.2.1 ≤ 3072) (hR : ∀ d m, d ≤ 10 → m ≤ n + 1 → gFit R d m) (hk : ∀ σ', gJ σ' → Go κ (mLw hs) R Z 2942 [(0, .ref κ.2.2.2.2.1), (1, .ref (κ.2.1 + 0)), (2, .ref (κ.2.1 + 376)), (3, .ref (κ.2.1 + 390)), (4, .ref (κ.2.1 + 391)), (5, .int (nI i))] [] σ' (n + 1)) : Go κ (mLw hs) R Z 688 [(0, .ref κ.2.2.2.2.1), (1, .ref (κ.2.1 + 0)), (2, .ref (κ.2.1 + 376)), (3, .ref (κ.2.1 + 390)), (4, .ref (κ.2.1 + 391)), (5, .int (nI i))] [] σ n := by
  obtain ⟨s', c1, c2, c3, c4⟩ := j_points (κ := κ) (σ := σ) (a1 := (gX κ (i + 1))) (a2 := (gX κ (i + 2))) h
  refine go_aload_n (q := 689) (gDec (iLw0_5_ok hs) 48 rfl) rfl rfl rfl ?_
  refine go_aload_n (q := 690) (gDec (iLw0_5_ok hs) 49 rfl) rfl rfl rfl ?_
  refine go_iload (q := 692) (gDec (iLw0_5_ok hs) 50 rfl) rfl rfl ?_
  refine go_iconst (v := nI 1) (q := 693) (gDec (iLw0_5_ok hs) 51 rfl) (by decide) rfl ?_
  refine go_iaddN (c := i + 1) (q := 694) (gDec (iLw0_5_ok hs) 52 rfl) rfl rfl ?_
  refine go_sld (q := 695) (gDec (iLw0_5_ok hs) 53 rfl) (vp_in_nI (by omega) (by omega)) rfl ?_
  refine go_top (v' := gX κ (i + 1)) (rfl) ?_
  refine go_aload_n (q := 696) (gDec (iLw0_5_ok hs) 54 rfl) rfl rfl rfl ?_
  refine go_iload (q := 698) (gDec (iLw0_5_ok hs) 55 rfl) rfl rfl ?_
  refine go_iconst (v := nI 2) (q := 699) (gDec (iLw0_5_ok hs) 56 rfl) (by decide) rfl ?_
  refine go_iaddN (c := i + 2) (q := 700) (gDec (iLw0_5_ok hs) 57 rfl) rfl rfl ?_
  refine go_sld (q := 701) (gDec (iLw0_5_ok hs) 58 rfl) (vp_in_nI (by omega) (by omega)) rfl ?_
  refine go_top (v' := gX κ (i + 2)) (rfl) ?_
  refine go_aload_n (q := 702) (gDec (iLw0_5_ok hs) 59 rfl) rfl rfl rfl ?_
  refine go_callH (n2 := n + 1) (q := 705) kL_178 rfl (ctL_points (κ := κ) (σ := σ) (a1 := (gX κ (i + 1))) (a2 := (gX κ (i + 2))) h) (gDec (iLw0_6_ok hs) 0 rfl) rfl rfl (Nat.le_of_ble_eq_true rfl) rfl (hR _ _ (by decide) (Nat.le_refl _)) rfl ?_
  refine go_istore (q := 707) (gDec (iLw0_6_ok hs) 1 rfl) (Nat.le_of_ble_eq_true rfl) rfl ?_
  refine go_aload_n (q := 708) (gDec (iLw0_6_ok hs) 2 rfl) rfl rfl rfl ?_
  refine go_aload_n (q := 709) (gDec (iLw0_6_ok hs) 3 rfl) rfl rfl rfl ?_
  refine go_iload (q := 711) (gDec (iLw0_6_ok hs) 4 rfl) rfl rfl ?_
  refine go_iconst (v := nI 1) (q := 712) (gDec (iLw0_6_ok hs) 5 rfl) (by decide) rfl ?_
  refine go_iaddN (c := i + 1) (q := 713) (gDec (iLw1_0_ok hs) 0 rfl) rfl rfl ?_
  refine go_sld (q := 714) (gDec (iLw1_0_ok hs) 1 rfl) (vp_in_nI (by omega) (by omega)) rfl ?_
  refine go_top (v' := gX κ (i + 1)) (rfl) ?_
  refine go_aload_n (q := 715) (gDec (iLw1_0_ok hs) 2 rfl) rfl rfl rfl ?_
  refine go_iload (q := 717) (gDec (iLw1_0_ok hs) 3 rfl) rfl rfl ?_
  refine go_iconst (v := nI 2) (q := 718) (gDec (iLw1_0_ok hs) 4 rfl) (by decide) rfl ?_
  refine go_iaddN (c := i + 2) (q := 719) (gDec (iLw1_0_ok hs) 5 rfl) rfl rfl ?_
  refine go_sld (q := 720) (gDec (iLw1_0_ok hs) 6 rfl) (vp_in_nI (by omega) (by omega)) rfl ?_
  refine go_top (v' := gX κ (i + 2)) (rfl) ?_
  refine go_callV (n2 := n + 1) (q := 723) kL_180 c1 (gDec (iLw1_0_ok hs) 7 rfl) rfl rfl (by decide) rfl rfl rfl (Nat.le_of_ble_eq_true rfl) rfl (hR _ _ (by decide) (Nat.le_refl _)) rfl ?_
  refine go_istore (q := 725) (gDec (iLw1_0_ok hs) 8 rfl) (Nat.le_of_ble_eq_true rfl) rfl ?_
  refine go_aload_n (q := 726) (gDec (iLw1_0_ok hs) 9 rfl) rfl rfl rfl ?_
  refine go_callV (n2 := n + 1) (q := 729) kL_157 (ctX11_thrown (κ := κ) (σ := s')) (gDec (iLw1_0_ok hs) 10 rfl) rfl rfl (by decide) rfl rfl rfl (Nat.le_of_ble_eq_true rfl) rfl (hR _ _ (by decide) (Nat.le_refl _)) rfl ?_
  refine go_top (v' := xC kO (fPoints σ (gX κ (i + 1)) (gX κ (i + 2))).1) (c2) ?_
  refine go_iload (q := 731) (gDec (iLw1_0_ok hs) 11 rfl) rfl rfl ?_
  refine go_icmp_eq (t := 736) (q := 734) (gDec (iLw1_0_ok hs) 12 rfl) (by decide) rfl (fun c731 => ?_) (fun c731 => False.elim (c731 rfl))
  refine go_iload (q := 738) (gDec (iLw1_0_ok hs) 15 rfl) rfl rfl ?_
  refine go_if_ne (t := 753) (q := 741) (gDec (iLw1_0_ok hs) 16 rfl) (by decide) rfl (fun c738 => ?_) (fun c738 => ?_)
  · refine go_goto (t := 2942) (gDec (iLw1_0_ok hs) 26 rfl) (by decide) ?_
    refine go_sub (L' := [(0, .ref κ.2.2.2.2.1), (1, .ref (κ.2.1 + 0)), (2, .ref (κ.2.1 + 376)), (3, .ref (κ.2.1 + 390)), (4, .ref (κ.2.1 + 391)), (5, .int (nI i))]) ⟨rfl, rfl, rfl, rfl, rfl, rfl, trivial⟩ ?_
    exact hk s' c4
  · obtain ⟨v, he⟩ := (r_points (σ := σ) (a1 := (gX κ (i + 1))) (a2 := (gX κ (i + 2)))).resolve_right (fun h9 => h9 c738)
    refine go_aload_n (q := 742) (gDec (iLw1_0_ok hs) 17 rfl) rfl rfl rfl ?_
    refine go_iconst (v := 0) (q := 743) (gDec (iLw1_0_ok hs) 18 rfl) (by decide) rfl ?_
    refine go_lald (q := 744) (gDec (iLw1_0_ok hs) 19 rfl) rfl (by decide) vp_00 rfl ?_
    refine go_iload (q := 746) (gDec (iLw1_0_ok hs) 20 rfl) rfl rfl ?_
    refine go_i2l (q := 747) (gDec (iLw1_0_ok hs) 21 rfl) rfl ?_
    refine go_lcmp (q := 748) (gDec (iLw1_0_ok hs) 22 rfl) rfl ?_
    refine go_top (v' := 0) ((lw_cmp he c3)) ?_
    refine go_if_eq (t := 753) (q := 751) (gDec (iLw1_0_ok hs) 23 rfl) (by decide) rfl (fun c748 => ?_) (fun c748 => False.elim (c748 rfl))
    refine go_goto (t := 2942) (gDec (iLw1_0_ok hs) 26 rfl) (by decide) ?_
    refine go_sub (L' := [(0, .ref κ.2.2.2.2.1), (1, .ref (κ.2.1 + 0)), (2, .ref (κ.2.1 + 376)), (3, .ref (κ.2.1 + 390)), (4, .ref (κ.2.1 + 391)), (5, .int (nI i))]) ⟨rfl, rfl, rfl, rfl, rfl, rfl, trivial⟩ ?_
    exact hk s' c4

set_option maxHeartbeats 4000000 in
set_option maxRecDepth 100000 in
theorem lw_c7 {κ : gK} {hs : List (Nat × Nat × Nat × Nat)} {R : Room} {Z : gZ} {σ : gST} {n i : Nat} (h : gJ σ) (hi : i + 6 ≤ κ.2.2.2.2.2.1) (hL : κ.2.2.2.2.2.1 ≤ 3072) (hR : ∀ d m, d ≤ 10 → m ≤ n + 1 → gFit R d m) (hk : ∀ σ', gJ σ' → Go κ (mLw hs) R Z 2942 [(0, .ref κ.2.2.2.2.1), (1, .ref (κ.2.1 + 0)), (2, .ref (κ.2.1 + 376)), (3, .ref (κ.2.1 + 390)), (4, .ref (κ.2.1 + 391)), (5, .int (nI i))] [] σ' (n + 1)) : Go κ (mLw hs) R Z 756 [(0, .ref κ.2.2.2.2.1), (1, .ref (κ.2.1 + 0)), (2, .ref (κ.2.1 + 376)), (3, .ref (κ.2.1 + 390)), (4, .ref (κ.2.1 + 391)), (5, .int (nI i))] [] σ n := by
  by_cases hb : gX κ (i + 4) = 0
  · obtain ⟨s', c1, c2, c3, c4⟩ := j_point (κ := κ) (σ := σ) (a1 := (gX κ (i + 1))) (a2 := (gX κ (i + 2))) (a3 := (gX κ (i + 3))) (a4 := 0) h
    refine go_aload_n (q := 757) (gDec (iLw1_0_ok hs) 27 rfl) rfl rfl rfl ?_
    refine go_aload_n (q := 758) (gDec (iLw1_0_ok hs) 28 rfl) rfl rfl rfl ?_
    refine go_iload (q := 760) (gDec (iLw1_0_ok hs) 29 rfl) rfl rfl ?_
    refine go_iconst (v := nI 1) (q := 761) (gDec (iLw1_0_ok hs) 30 rfl) (by decide) rfl ?_
    refine go_iaddN (c := i + 1) (q := 762) (gDec (iLw1_0_ok hs) 31 rfl) rfl rfl ?_
    refine go_sld (q := 763) (gDec (iLw1_0_ok hs) 32 rfl) (vp_in_nI (by omega) (by omega)) rfl ?_
    refine go_top (v' := gX κ (i + 1)) (rfl) ?_
    refine go_aload_n (q := 764) (gDec (iLw1_0_ok hs) 33 rfl) rfl rfl rfl ?_
    refine go_iload (q := 766) (gDec (iLw1_0_ok hs) 34 rfl) rfl rfl ?_
    refine go_iconst (v := nI 2) (q := 767) (gDec (iLw1_0_ok hs) 35 rfl) (by decide) rfl ?_
    refine go_iaddN (c := i + 2) (q := 768) (gDec (iLw1_0_ok hs) 36 rfl) rfl rfl ?_
    refine go_sld (q := 769) (gDec (iLw1_0_ok hs) 37 rfl) (vp_in_nI (by omega) (by omega)) rfl ?_
    refine go_top (v' := gX κ (i + 2)) (rfl) ?_
    refine go_aload_n (q := 770) (gDec (iLw1_0_ok hs) 38 rfl) rfl rfl rfl ?_
    refine go_iload (q := 772) (gDec (iLw1_0_ok hs) 39 rfl) rfl rfl ?_
    refine go_iconst (v := nI 3) (q := 773) (gDec (iLw1_0_ok hs) 40 rfl) (by decide) rfl ?_
    refine go_iaddN (c := i + 3) (q := 774) (gDec (iLw1_0_ok hs) 41 rfl) rfl rfl ?_
    refine go_sld (q := 775) (gDec (iLw1_0_ok hs) 42 rfl) (vp_in_nI (by omega) (by omega)) rfl ?_
    refine go_top (v' := gX κ (i + 3)) (rfl) ?_
    refine go_aload_n (q := 776) (gDec (iLw1_0_ok hs) 43 rfl) rfl rfl rfl ?_
    refine go_iload (q := 778) (gDec (iLw1_0_ok hs) 44 rfl) rfl rfl ?_
    refine go_iconst (v := nI 4) (q := 779) (gDec (iLw1_0_ok hs) 45 rfl) (by decide) rfl ?_
    refine go_iaddN (c := i + 4) (q := 780) (gDec (iLw1_0_ok hs) 46 rfl) rfl rfl ?_
    refine go_sld (q := 781) (gDec (iLw1_0_ok hs) 47 rfl) (vp_in_nI (by omega) (by omega)) rfl ?_
    refine go_top (v' := gX κ (i + 4)) (rfl) ?_
    refine go_if_eq (t := 788) (q := 784) (gDec (iLw1_0_ok hs) 48 rfl) (by decide) rfl (fun c781 => ?_) (fun c781 => False.elim (c781 hb))
    refine go_iconst (v := 0) (q := 789) (gDec (iLw1_0_ok hs) 51 rfl) (by decide) rfl ?_
    refine go_aload_n (q := 790) (gDec (iLw1_0_ok hs) 52 rfl) rfl rfl rfl ?_
    refine go_callH (n2 := n + 1) (q := 793) kL_181 rfl (ctL_point (κ := κ) (σ := σ) (a1 := (gX κ (i + 1))) (a2 := (gX κ (i + 2))) (a3 := (gX κ (i + 3))) (a4 := 0) h) (gDec (iLw1_0_ok hs) 53 rfl) rfl rfl (Nat.le_of_ble_eq_true rfl) rfl (hR _ _ (by decide) (Nat.le_refl _)) rfl ?_
    refine go_istore (q := 795) (gDec (iLw1_0_ok hs) 54 rfl) (Nat.le_of_ble_eq_true rfl) rfl ?_
    refine go_aload_n (q := 796) (gDec (iLw1_0_ok hs) 55 rfl) rfl rfl rfl ?_
    refine go_aload_n (q := 797) (gDec (iLw1_0_ok hs) 56 rfl) rfl rfl rfl ?_
    refine go_iload (q := 799) (gDec (iLw1_0_ok hs) 57 rfl) rfl rfl ?_
    refine go_iconst (v := nI 1) (q := 800) (gDec (iLw1_0_ok hs) 58 rfl) (by decide) rfl ?_
    refine go_iaddN (c := i + 1) (q := 801) (gDec (iLw1_0_ok hs) 59 rfl) rfl rfl ?_
    refine go_sld (q := 802) (gDec (iLw1_1_ok hs) 0 rfl) (vp_in_nI (by omega) (by omega)) rfl ?_
    refine go_top (v' := gX κ (i + 1)) (rfl) ?_
    refine go_aload_n (q := 803) (gDec (iLw1_1_ok hs) 1 rfl) rfl rfl rfl ?_
    refine go_iload (q := 805) (gDec (iLw1_1_ok hs) 2 rfl) rfl rfl ?_
    refine go_iconst (v := nI 2) (q := 806) (gDec (iLw1_1_ok hs) 3 rfl) (by decide) rfl ?_
    refine go_iaddN (c := i + 2) (q := 807) (gDec (iLw1_1_ok hs) 4 rfl) rfl rfl ?_
    refine go_sld (q := 808) (gDec (iLw1_1_ok hs) 5 rfl) (vp_in_nI (by omega) (by omega)) rfl ?_
    refine go_top (v' := gX κ (i + 2)) (rfl) ?_
    refine go_aload_n (q := 809) (gDec (iLw1_1_ok hs) 6 rfl) rfl rfl rfl ?_
    refine go_iload (q := 811) (gDec (iLw1_1_ok hs) 7 rfl) rfl rfl ?_
    refine go_iconst (v := nI 3) (q := 812) (gDec (iLw1_1_ok hs) 8 rfl) (by decide) rfl ?_
    refine go_iaddN (c := i + 3) (q := 813) (gDec (iLw1_1_ok hs) 9 rfl) rfl rfl ?_
    refine go_sld (q := 814) (gDec (iLw1_1_ok hs) 10 rfl) (vp_in_nI (by omega) (by omega)) rfl ?_
    refine go_top (v' := gX κ (i + 3)) (rfl) ?_
    refine go_aload_n (q := 815) (gDec (iLw1_1_ok hs) 11 rfl) rfl rfl rfl ?_
    refine go_iload (q := 817) (gDec (iLw1_1_ok hs) 12 rfl) rfl rfl ?_
    refine go_iconst (v := nI 4) (q := 818) (gDec (iLw1_1_ok hs) 13 rfl) (by decide) rfl ?_
    refine go_iaddN (c := i + 4) (q := 819) (gDec (iLw1_1_ok hs) 14 rfl) rfl rfl ?_
    refine go_sld (q := 820) (gDec (iLw1_1_ok hs) 15 rfl) (vp_in_nI (by omega) (by omega)) rfl ?_
    refine go_top (v' := gX κ (i + 4)) (rfl) ?_
    refine go_if_eq (t := 827) (q := 823) (gDec (iLw1_1_ok hs) 16 rfl) (by decide) rfl (fun c820 => ?_) (fun c820 => False.elim (c820 hb))
    refine go_iconst (v := 0) (q := 828) (gDec (iLw1_1_ok hs) 19 rfl) (by decide) rfl ?_
    refine go_callV (n2 := n + 1) (q := 831) kL_184 c1 (gDec (iLw1_1_ok hs) 20 rfl) rfl rfl (by decide) rfl rfl rfl (Nat.le_of_ble_eq_true rfl) rfl (hR _ _ (by decide) (Nat.le_refl _)) rfl ?_
    refine go_istore (q := 833) (gDec (iLw1_1_ok hs) 21 rfl) (Nat.le_of_ble_eq_true rfl) rfl ?_
    refine go_aload_n (q := 834) (gDec (iLw1_1_ok hs) 22 rfl) rfl rfl rfl ?_
    refine go_callV (n2 := n + 1) (q := 837) kL_157 (ctX11_thrown (κ := κ) (σ := s')) (gDec (iLw1_1_ok hs) 23 rfl) rfl rfl (by decide) rfl rfl rfl (Nat.le_of_ble_eq_true rfl) rfl (hR _ _ (by decide) (Nat.le_refl _)) rfl ?_
    refine go_top (v' := xC kO (fPoint σ (gX κ (i + 1)) (gX κ (i + 2)) (gX κ (i + 3)) 0).1) (c2) ?_
    refine go_iload (q := 839) (gDec (iLw1_1_ok hs) 24 rfl) rfl rfl ?_
    refine go_icmp_eq (t := 844) (q := 842) (gDec (iLw1_1_ok hs) 25 rfl) (by decide) rfl (fun c839 => ?_) (fun c839 => False.elim (c839 rfl))
    refine go_iload (q := 846) (gDec (iLw1_1_ok hs) 28 rfl) rfl rfl ?_
    refine go_if_ne (t := 861) (q := 849) (gDec (iLw1_1_ok hs) 29 rfl) (by decide) rfl (fun c846 => ?_) (fun c846 => ?_)
    · refine go_goto (t := 2942) (gDec (iLw1_1_ok hs) 39 rfl) (by decide) ?_
      refine go_sub (L' := [(0, .ref κ.2.2.2.2.1), (1, .ref (κ.2.1 + 0)), (2, .ref (κ.2.1 + 376)), (3, .ref (κ.2.1 + 390)), (4, .ref (κ.2.1 + 391)), (5, .int (nI i))]) ⟨rfl, rfl, rfl, rfl, rfl, rfl, trivial⟩ ?_
      exact hk s' c4
    · obtain ⟨v, he⟩ := (r_point (σ := σ) (a1 := (gX κ (i + 1))) (a2 := (gX κ (i + 2))) (a3 := (gX κ (i + 3))) (a4 := 0)).resolve_right (fun h9 => h9 c846)
      refine go_aload_n (q := 850) (gDec (iLw1_1_ok hs) 30 rfl) rfl rfl rfl ?_
      refine go_iconst (v := 0) (q := 851) (gDec (iLw1_1_ok hs) 31 rfl) (by decide) rfl ?_
      refine go_lald (q := 852) (gDec (iLw1_1_ok hs) 32 rfl) rfl (by decide) vp_00 rfl ?_
      refine go_iload (q := 854) (gDec (iLw1_1_ok hs) 33 rfl) rfl rfl ?_
      refine go_i2l (q := 855) (gDec (iLw1_1_ok hs) 34 rfl) rfl ?_
      refine go_lcmp (q := 856) (gDec (iLw1_1_ok hs) 35 rfl) rfl ?_
      refine go_top (v' := 0) ((lw_cmp he c3)) ?_
      refine go_if_eq (t := 861) (q := 859) (gDec (iLw1_1_ok hs) 36 rfl) (by decide) rfl (fun c856 => ?_) (fun c856 => False.elim (c856 rfl))
      refine go_goto (t := 2942) (gDec (iLw1_1_ok hs) 39 rfl) (by decide) ?_
      refine go_sub (L' := [(0, .ref κ.2.2.2.2.1), (1, .ref (κ.2.1 + 0)), (2, .ref (κ.2.1 + 376)), (3, .ref (κ.2.1 + 390)), (4, .ref (κ.2.1 + 391)), (5, .int (nI i))]) ⟨rfl, rfl, rfl, rfl, rfl, rfl, trivial⟩ ?_
      exact hk s' c4
  · obtain ⟨s', c1, c2, c3, c4⟩ := j_point (κ := κ) (σ := σ) (a1 := (gX κ (i + 1))) (a2 := (gX κ (i + 2))) (a3 := (gX κ (i + 3))) (a4 := 1) h
    refine go_aload_n (q := 757) (gDec (iLw1_0_ok hs) 27 rfl) rfl rfl rfl ?_
    refine go_aload_n (q := 758) (gDec (iLw1_0_ok hs) 28 rfl) rfl rfl rfl ?_
    refine go_iload (q := 760) (gDec (iLw1_0_ok hs) 29 rfl) rfl rfl ?_
    refine go_iconst (v := nI 1) (q := 761) (gDec (iLw1_0_ok hs) 30 rfl) (by decide) rfl ?_
    refine go_iaddN (c := i + 1) (q := 762) (gDec (iLw1_0_ok hs) 31 rfl) rfl rfl ?_
    refine go_sld (q := 763) (gDec (iLw1_0_ok hs) 32 rfl) (vp_in_nI (by omega) (by omega)) rfl ?_
    refine go_top (v' := gX κ (i + 1)) (rfl) ?_
    refine go_aload_n (q := 764) (gDec (iLw1_0_ok hs) 33 rfl) rfl rfl rfl ?_
    refine go_iload (q := 766) (gDec (iLw1_0_ok hs) 34 rfl) rfl rfl ?_
    refine go_iconst (v := nI 2) (q := 767) (gDec (iLw1_0_ok hs) 35 rfl) (by decide) rfl ?_
    refine go_iaddN (c := i + 2) (q := 768) (gDec (iLw1_0_ok hs) 36 rfl) rfl rfl ?_
    refine go_sld (q := 769) (gDec (iLw1_0_ok hs) 37 rfl) (vp_in_nI (by omega) (by omega)) rfl ?_
    refine go_top (v' := gX κ (i + 2)) (rfl) ?_
    refine go_aload_n (q := 770) (gDec (iLw1_0_ok hs) 38 rfl) rfl rfl rfl ?_
    refine go_iload (q := 772) (gDec (iLw1_0_ok hs) 39 rfl) rfl rfl ?_
    refine go_iconst (v := nI 3) (q := 773) (gDec (iLw1_0_ok hs) 40 rfl) (by decide) rfl ?_
    refine go_iaddN (c := i + 3) (q := 774) (gDec (iLw1_0_ok hs) 41 rfl) rfl rfl ?_
    refine go_sld (q := 775) (gDec (iLw1_0_ok hs) 42 rfl) (vp_in_nI (by omega) (by omega)) rfl ?_
    refine go_top (v' := gX κ (i + 3)) (rfl) ?_
    refine go_aload_n (q := 776) (gDec (iLw1_0_ok hs) 43 rfl) rfl rfl rfl ?_
    refine go_iload (q := 778) (gDec (iLw1_0_ok hs) 44 rfl) rfl rfl ?_
    refine go_iconst (v := nI 4) (q := 779) (gDec (iLw1_0_ok hs) 45 rfl) (by decide) rfl ?_
    refine go_iaddN (c := i + 4) (q := 780) (gDec (iLw1_0_ok hs) 46 rfl) rfl rfl ?_
    refine go_sld (q := 781) (gDec (iLw1_0_ok hs) 47 rfl) (vp_in_nI (by omega) (by omega)) rfl ?_
    refine go_top (v' := gX κ (i + 4)) (rfl) ?_
    refine go_if_eq (t := 788) (q := 784) (gDec (iLw1_0_ok hs) 48 rfl) (by decide) rfl (fun c781 => False.elim (hb c781)) (fun c781 => ?_)
    refine go_iconst (v := 1) (q := 785) (gDec (iLw1_0_ok hs) 49 rfl) (by decide) rfl ?_
    refine go_goto (t := 789) (gDec (iLw1_0_ok hs) 50 rfl) (by decide) ?_
    refine go_aload_n (q := 790) (gDec (iLw1_0_ok hs) 52 rfl) rfl rfl rfl ?_
    refine go_callH (n2 := n + 1) (q := 793) kL_181 rfl (ctL_point (κ := κ) (σ := σ) (a1 := (gX κ (i + 1))) (a2 := (gX κ (i + 2))) (a3 := (gX κ (i + 3))) (a4 := 1) h) (gDec (iLw1_0_ok hs) 53 rfl) rfl rfl (Nat.le_of_ble_eq_true rfl) rfl (hR _ _ (by decide) (Nat.le_refl _)) rfl ?_
    refine go_istore (q := 795) (gDec (iLw1_0_ok hs) 54 rfl) (Nat.le_of_ble_eq_true rfl) rfl ?_
    refine go_aload_n (q := 796) (gDec (iLw1_0_ok hs) 55 rfl) rfl rfl rfl ?_
    refine go_aload_n (q := 797) (gDec (iLw1_0_ok hs) 56 rfl) rfl rfl rfl ?_
    refine go_iload (q := 799) (gDec (iLw1_0_ok hs) 57 rfl) rfl rfl ?_
    refine go_iconst (v := nI 1) (q := 800) (gDec (iLw1_0_ok hs) 58 rfl) (by decide) rfl ?_
    refine go_iaddN (c := i + 1) (q := 801) (gDec (iLw1_0_ok hs) 59 rfl) rfl rfl ?_
    refine go_sld (q := 802) (gDec (iLw1_1_ok hs) 0 rfl) (vp_in_nI (by omega) (by omega)) rfl ?_
    refine go_top (v' := gX κ (i + 1)) (rfl) ?_
    refine go_aload_n (q := 803) (gDec (iLw1_1_ok hs) 1 rfl) rfl rfl rfl ?_
    refine go_iload (q := 805) (gDec (iLw1_1_ok hs) 2 rfl) rfl rfl ?_
    refine go_iconst (v := nI 2) (q := 806) (gDec (iLw1_1_ok hs) 3 rfl) (by decide) rfl ?_
    refine go_iaddN (c := i + 2) (q := 807) (gDec (iLw1_1_ok hs) 4 rfl) rfl rfl ?_
    refine go_sld (q := 808) (gDec (iLw1_1_ok hs) 5 rfl) (vp_in_nI (by omega) (by omega)) rfl ?_
    refine go_top (v' := gX κ (i + 2)) (rfl) ?_
    refine go_aload_n (q := 809) (gDec (iLw1_1_ok hs) 6 rfl) rfl rfl rfl ?_
    refine go_iload (q := 811) (gDec (iLw1_1_ok hs) 7 rfl) rfl rfl ?_
    refine go_iconst (v := nI 3) (q := 812) (gDec (iLw1_1_ok hs) 8 rfl) (by decide) rfl ?_
    refine go_iaddN (c := i + 3) (q := 813) (gDec (iLw1_1_ok hs) 9 rfl) rfl rfl ?_
    refine go_sld (q := 814) (gDec (iLw1_1_ok hs) 10 rfl) (vp_in_nI (by omega) (by omega)) rfl ?_
    refine go_top (v' := gX κ (i + 3)) (rfl) ?_
    refine go_aload_n (q := 815) (gDec (iLw1_1_ok hs) 11 rfl) rfl rfl rfl ?_
    refine go_iload (q := 817) (gDec (iLw1_1_ok hs) 12 rfl) rfl rfl ?_
    refine go_iconst (v := nI 4) (q := 818) (gDec (iLw1_1_ok hs) 13 rfl) (by decide) rfl ?_
    refine go_iaddN (c := i + 4) (q := 819) (gDec (iLw1_1_ok hs) 14 rfl) rfl rfl ?_
    refine go_sld (q := 820) (gDec (iLw1_1_ok hs) 15 rfl) (vp_in_nI (by omega) (by omega)) rfl ?_
    refine go_top (v' := gX κ (i + 4)) (rfl) ?_
    refine go_if_eq (t := 827) (q := 823) (gDec (iLw1_1_ok hs) 16 rfl) (by decide) rfl (fun c820 => False.elim (hb c820)) (fun c820 => ?_)
    refine go_iconst (v := 1) (q := 824) (gDec (iLw1_1_ok hs) 17 rfl) (by decide) rfl ?_
    refine go_goto (t := 828) (gDec (iLw1_1_ok hs) 18 rfl) (by decide) ?_
    refine go_callV (n2 := n + 1) (q := 831) kL_184 c1 (gDec (iLw1_1_ok hs) 20 rfl) rfl rfl (by decide) rfl rfl rfl (Nat.le_of_ble_eq_true rfl) rfl (hR _ _ (by decide) (Nat.le_refl _)) rfl ?_
    refine go_istore (q := 833) (gDec (iLw1_1_ok hs) 21 rfl) (Nat.le_of_ble_eq_true rfl) rfl ?_
    refine go_aload_n (q := 834) (gDec (iLw1_1_ok hs) 22 rfl) rfl rfl rfl ?_
    refine go_callV (n2 := n + 1) (q := 837) kL_157 (ctX11_thrown (κ := κ) (σ := s')) (gDec (iLw1_1_ok hs) 23 rfl) rfl rfl (by decide) rfl rfl rfl (Nat.le_of_ble_eq_true rfl) rfl (hR _ _ (by decide) (Nat.le_refl _)) rfl ?_
    refine go_top (v' := xC kO (fPoint σ (gX κ (i + 1)) (gX κ (i + 2)) (gX κ (i + 3)) 1).1) (c2) ?_
    refine go_iload (q := 839) (gDec (iLw1_1_ok hs) 24 rfl) rfl rfl ?_
    refine go_icmp_eq (t := 844) (q := 842) (gDec (iLw1_1_ok hs) 25 rfl) (by decide) rfl (fun c839 => ?_) (fun c839 => False.elim (c839 rfl))
    refine go_iload (q := 846) (gDec (iLw1_1_ok hs) 28 rfl) rfl rfl ?_
    refine go_if_ne (t := 861) (q := 849) (gDec (iLw1_1_ok hs) 29 rfl) (by decide) rfl (fun c846 => ?_) (fun c846 => ?_)
    · refine go_goto (t := 2942) (gDec (iLw1_1_ok hs) 39 rfl) (by decide) ?_
      refine go_sub (L' := [(0, .ref κ.2.2.2.2.1), (1, .ref (κ.2.1 + 0)), (2, .ref (κ.2.1 + 376)), (3, .ref (κ.2.1 + 390)), (4, .ref (κ.2.1 + 391)), (5, .int (nI i))]) ⟨rfl, rfl, rfl, rfl, rfl, rfl, trivial⟩ ?_
      exact hk s' c4
    · obtain ⟨v, he⟩ := (r_point (σ := σ) (a1 := (gX κ (i + 1))) (a2 := (gX κ (i + 2))) (a3 := (gX κ (i + 3))) (a4 := 1)).resolve_right (fun h9 => h9 c846)
      refine go_aload_n (q := 850) (gDec (iLw1_1_ok hs) 30 rfl) rfl rfl rfl ?_
      refine go_iconst (v := 0) (q := 851) (gDec (iLw1_1_ok hs) 31 rfl) (by decide) rfl ?_
      refine go_lald (q := 852) (gDec (iLw1_1_ok hs) 32 rfl) rfl (by decide) vp_00 rfl ?_
      refine go_iload (q := 854) (gDec (iLw1_1_ok hs) 33 rfl) rfl rfl ?_
      refine go_i2l (q := 855) (gDec (iLw1_1_ok hs) 34 rfl) rfl ?_
      refine go_lcmp (q := 856) (gDec (iLw1_1_ok hs) 35 rfl) rfl ?_
      refine go_top (v' := 0) ((lw_cmp he c3)) ?_
      refine go_if_eq (t := 861) (q := 859) (gDec (iLw1_1_ok hs) 36 rfl) (by decide) rfl (fun c856 => ?_) (fun c856 => False.elim (c856 rfl))
      refine go_goto (t := 2942) (gDec (iLw1_1_ok hs) 39 rfl) (by decide) ?_
      refine go_sub (L' := [(0, .ref κ.2.2.2.2.1), (1, .ref (κ.2.1 + 0)), (2, .ref (κ.2.1 + 376)), (3, .ref (κ.2.1 + 390)), (4, .ref (κ.2.1 + 391)), (5, .int (nI i))]) ⟨rfl, rfl, rfl, rfl, rfl, rfl, trivial⟩ ?_
      exact hk s' c4

set_option maxHeartbeats 4000000 in
set_option maxRecDepth 100000 in
theorem lw_c8 {κ : gK} {hs : List (Nat × Nat × Nat × Nat)} {R : Room} {Z : gZ} {σ : gST} {n i : Nat} (h : gJ σ) (hi : i + 6 ≤ κ.2.2.2.2.2.1) (hL : κ.2.2.2.2.2.1 ≤ 3072) (hR : ∀ d m, d ≤ 10 → m ≤ n + 1 → gFit R d m) (hk : ∀ σ', gJ σ' → Go κ (mLw hs) R Z 2942 [(0, .ref κ.2.2.2.2.1), (1, .ref (κ.2.1 + 0)), (2, .ref (κ.2.1 + 376)), (3, .ref (κ.2.1 + 390)), (4, .ref (κ.2.1 + 391)), (5, .int (nI i))] [] σ' (n + 1)) : Go κ (mLw hs) R Z 864 [(0, .ref κ.2.2.2.2.1), (1, .ref (κ.2.1 + 0)), (2, .ref (κ.2.1 + 376)), (3, .ref (κ.2.1 + 390)), (4, .ref (κ.2.1 + 391)), (5, .int (nI i))] [] σ n := by
  obtain ⟨s', c1, c2, c3, c4⟩ := j_area (κ := κ) (σ := σ) (a1 := (gX κ (i + 1))) (a2 := (gX κ (i + 2))) h
  refine go_aload_n (q := 865) (gDec (iLw1_1_ok hs) 40 rfl) rfl rfl rfl ?_
  refine go_aload_n (q := 866) (gDec (iLw1_1_ok hs) 41 rfl) rfl rfl rfl ?_
  refine go_iload (q := 868) (gDec (iLw1_1_ok hs) 42 rfl) rfl rfl ?_
  refine go_iconst (v := nI 1) (q := 869) (gDec (iLw1_1_ok hs) 43 rfl) (by decide) rfl ?_
  refine go_iaddN (c := i + 1) (q := 870) (gDec (iLw1_1_ok hs) 44 rfl) rfl rfl ?_
  refine go_sld (q := 871) (gDec (iLw1_1_ok hs) 45 rfl) (vp_in_nI (by omega) (by omega)) rfl ?_
  refine go_top (v' := gX κ (i + 1)) (rfl) ?_
  refine go_aload_n (q := 872) (gDec (iLw1_1_ok hs) 46 rfl) rfl rfl rfl ?_
  refine go_iload (q := 874) (gDec (iLw1_1_ok hs) 47 rfl) rfl rfl ?_
  refine go_iconst (v := nI 2) (q := 875) (gDec (iLw1_1_ok hs) 48 rfl) (by decide) rfl ?_
  refine go_iaddN (c := i + 2) (q := 876) (gDec (iLw1_1_ok hs) 49 rfl) rfl rfl ?_
  refine go_sld (q := 877) (gDec (iLw1_1_ok hs) 50 rfl) (vp_in_nI (by omega) (by omega)) rfl ?_
  refine go_top (v' := gX κ (i + 2)) (rfl) ?_
  refine go_aload_n (q := 878) (gDec (iLw1_1_ok hs) 51 rfl) rfl rfl rfl ?_
  refine go_callH (n2 := n + 1) (q := 881) kL_185 rfl (ctL_area (κ := κ) (σ := σ) (a1 := (gX κ (i + 1))) (a2 := (gX κ (i + 2))) h) (gDec (iLw1_1_ok hs) 52 rfl) rfl rfl (Nat.le_of_ble_eq_true rfl) rfl (hR _ _ (by decide) (Nat.le_refl _)) rfl ?_
  refine go_istore (q := 883) (gDec (iLw1_1_ok hs) 53 rfl) (Nat.le_of_ble_eq_true rfl) rfl ?_
  refine go_aload_n (q := 884) (gDec (iLw1_1_ok hs) 54 rfl) rfl rfl rfl ?_
  refine go_aload_n (q := 885) (gDec (iLw1_1_ok hs) 55 rfl) rfl rfl rfl ?_
  refine go_iload (q := 887) (gDec (iLw1_1_ok hs) 56 rfl) rfl rfl ?_
  refine go_iconst (v := nI 1) (q := 888) (gDec (iLw1_1_ok hs) 57 rfl) (by decide) rfl ?_
  refine go_iaddN (c := i + 1) (q := 889) (gDec (iLw1_1_ok hs) 58 rfl) rfl rfl ?_
  refine go_sld (q := 890) (gDec (iLw1_1_ok hs) 59 rfl) (vp_in_nI (by omega) (by omega)) rfl ?_
  refine go_top (v' := gX κ (i + 1)) (rfl) ?_
  refine go_aload_n (q := 891) (gDec (iLw1_2_ok hs) 0 rfl) rfl rfl rfl ?_
  refine go_iload (q := 893) (gDec (iLw1_2_ok hs) 1 rfl) rfl rfl ?_
  refine go_iconst (v := nI 2) (q := 894) (gDec (iLw1_2_ok hs) 2 rfl) (by decide) rfl ?_
  refine go_iaddN (c := i + 2) (q := 895) (gDec (iLw1_2_ok hs) 3 rfl) rfl rfl ?_
  refine go_sld (q := 896) (gDec (iLw1_2_ok hs) 4 rfl) (vp_in_nI (by omega) (by omega)) rfl ?_
  refine go_top (v' := gX κ (i + 2)) (rfl) ?_
  refine go_callV (n2 := n + 1) (q := 899) kL_187 c1 (gDec (iLw1_2_ok hs) 5 rfl) rfl rfl (by decide) rfl rfl rfl (Nat.le_of_ble_eq_true rfl) rfl (hR _ _ (by decide) (Nat.le_refl _)) rfl ?_
  refine go_istore (q := 901) (gDec (iLw1_2_ok hs) 6 rfl) (Nat.le_of_ble_eq_true rfl) rfl ?_
  refine go_aload_n (q := 902) (gDec (iLw1_2_ok hs) 7 rfl) rfl rfl rfl ?_
  refine go_callV (n2 := n + 1) (q := 905) kL_157 (ctX11_thrown (κ := κ) (σ := s')) (gDec (iLw1_2_ok hs) 8 rfl) rfl rfl (by decide) rfl rfl rfl (Nat.le_of_ble_eq_true rfl) rfl (hR _ _ (by decide) (Nat.le_refl _)) rfl ?_
  refine go_top (v' := xC kO (fArea σ (gX κ (i + 1)) (gX κ (i + 2))).1) (c2) ?_
  refine go_iload (q := 907) (gDec (iLw1_2_ok hs) 9 rfl) rfl rfl ?_
  refine go_icmp_eq (t := 912) (q := 910) (gDec (iLw1_2_ok hs) 10 rfl) (by decide) rfl (fun c907 => ?_) (fun c907 => False.elim (c907 rfl))
  refine go_iload (q := 914) (gDec (iLw1_2_ok hs) 13 rfl) rfl rfl ?_
  refine go_if_ne (t := 929) (q := 917) (gDec (iLw1_2_ok hs) 14 rfl) (by decide) rfl (fun c914 => ?_) (fun c914 => ?_)
  · refine go_goto (t := 2942) (gDec (iLw1_2_ok hs) 24 rfl) (by decide) ?_
    refine go_sub (L' := [(0, .ref κ.2.2.2.2.1), (1, .ref (κ.2.1 + 0)), (2, .ref (κ.2.1 + 376)), (3, .ref (κ.2.1 + 390)), (4, .ref (κ.2.1 + 391)), (5, .int (nI i))]) ⟨rfl, rfl, rfl, rfl, rfl, rfl, trivial⟩ ?_
    exact hk s' c4
  · obtain ⟨v, he⟩ := (r_area (σ := σ) (a1 := (gX κ (i + 1))) (a2 := (gX κ (i + 2)))).resolve_right (fun h9 => h9 c914)
    refine go_aload_n (q := 918) (gDec (iLw1_2_ok hs) 15 rfl) rfl rfl rfl ?_
    refine go_iconst (v := 0) (q := 919) (gDec (iLw1_2_ok hs) 16 rfl) (by decide) rfl ?_
    refine go_lald (q := 920) (gDec (iLw1_2_ok hs) 17 rfl) rfl (by decide) vp_00 rfl ?_
    refine go_iload (q := 922) (gDec (iLw1_2_ok hs) 18 rfl) rfl rfl ?_
    refine go_i2l (q := 923) (gDec (iLw1_2_ok hs) 19 rfl) rfl ?_
    refine go_lcmp (q := 924) (gDec (iLw1_2_ok hs) 20 rfl) rfl ?_
    refine go_top (v' := 0) ((lw_cmp he c3)) ?_
    refine go_if_eq (t := 929) (q := 927) (gDec (iLw1_2_ok hs) 21 rfl) (by decide) rfl (fun c924 => ?_) (fun c924 => False.elim (c924 rfl))
    refine go_goto (t := 2942) (gDec (iLw1_2_ok hs) 24 rfl) (by decide) ?_
    refine go_sub (L' := [(0, .ref κ.2.2.2.2.1), (1, .ref (κ.2.1 + 0)), (2, .ref (κ.2.1 + 376)), (3, .ref (κ.2.1 + 390)), (4, .ref (κ.2.1 + 391)), (5, .int (nI i))]) ⟨rfl, rfl, rfl, rfl, rfl, rfl, trivial⟩ ?_
    exact hk s' c4

set_option maxHeartbeats 4000000 in
set_option maxRecDepth 100000 in
theorem lw_c9 {κ : gK} {hs : List (Nat × Nat × Nat × Nat)} {R : Room} {Z : gZ} {σ : gST} {n i : Nat} (h : gJ σ) (hi : i + 6 ≤ κ.2.2.2.2.2.1) (hL : κ.2.2.2.2.2.1 ≤ 3072) (hR : ∀ d m, d ≤ 10 → m ≤ n + 1 → gFit R d m) (hk : ∀ σ', gJ σ' → Go κ (mLw hs) R Z 2942 [(0, .ref κ.2.2.2.2.1), (1, .ref (κ.2.1 + 0)), (2, .ref (κ.2.1 + 376)), (3, .ref (κ.2.1 + 390)), (4, .ref (κ.2.1 + 391)), (5, .int (nI i))] [] σ' (n + 1)) : Go κ (mLw hs) R Z 932 [(0, .ref κ.2.2.2.2.1), (1, .ref (κ.2.1 + 0)), (2, .ref (κ.2.1 + 376)), (3, .ref (κ.2.1 + 390)), (4, .ref (κ.2.1 + 391)), (5, .int (nI i))] [] σ n := by
  obtain ⟨s', c1, c2, c3, c4⟩ := j_setSide (κ := κ) (σ := σ) (a1 := (gX κ (i + 1))) (a2 := (gX κ (i + 2))) (a3 := (gX κ (i + 3))) h
  refine go_aload_n (q := 933) (gDec (iLw1_2_ok hs) 25 rfl) rfl rfl rfl ?_
  refine go_aload_n (q := 934) (gDec (iLw1_2_ok hs) 26 rfl) rfl rfl rfl ?_
  refine go_iload (q := 936) (gDec (iLw1_2_ok hs) 27 rfl) rfl rfl ?_
  refine go_iconst (v := nI 1) (q := 937) (gDec (iLw1_2_ok hs) 28 rfl) (by decide) rfl ?_
  refine go_iaddN (c := i + 1) (q := 938) (gDec (iLw1_2_ok hs) 29 rfl) rfl rfl ?_
  refine go_sld (q := 939) (gDec (iLw1_2_ok hs) 30 rfl) (vp_in_nI (by omega) (by omega)) rfl ?_
  refine go_top (v' := gX κ (i + 1)) (rfl) ?_
  refine go_aload_n (q := 940) (gDec (iLw1_2_ok hs) 31 rfl) rfl rfl rfl ?_
  refine go_iload (q := 942) (gDec (iLw1_2_ok hs) 32 rfl) rfl rfl ?_
  refine go_iconst (v := nI 2) (q := 943) (gDec (iLw1_2_ok hs) 33 rfl) (by decide) rfl ?_
  refine go_iaddN (c := i + 2) (q := 944) (gDec (iLw1_2_ok hs) 34 rfl) rfl rfl ?_
  refine go_sld (q := 945) (gDec (iLw1_2_ok hs) 35 rfl) (vp_in_nI (by omega) (by omega)) rfl ?_
  refine go_top (v' := gX κ (i + 2)) (rfl) ?_
  refine go_aload_n (q := 946) (gDec (iLw1_2_ok hs) 36 rfl) rfl rfl rfl ?_
  refine go_iload (q := 948) (gDec (iLw1_2_ok hs) 37 rfl) rfl rfl ?_
  refine go_iconst (v := nI 3) (q := 949) (gDec (iLw1_2_ok hs) 38 rfl) (by decide) rfl ?_
  refine go_iaddN (c := i + 3) (q := 950) (gDec (iLw1_2_ok hs) 39 rfl) rfl rfl ?_
  refine go_sld (q := 951) (gDec (iLw1_2_ok hs) 40 rfl) (vp_in_nI (by omega) (by omega)) rfl ?_
  refine go_top (v' := gX κ (i + 3)) (rfl) ?_
  refine go_aload_n (q := 952) (gDec (iLw1_2_ok hs) 41 rfl) rfl rfl rfl ?_
  refine go_callH (n2 := n + 1) (q := 955) kL_188 rfl (ctL_setSide (κ := κ) (σ := σ) (a1 := (gX κ (i + 1))) (a2 := (gX κ (i + 2))) (a3 := (gX κ (i + 3))) h) (gDec (iLw1_2_ok hs) 42 rfl) rfl rfl (Nat.le_of_ble_eq_true rfl) rfl (hR _ _ (by decide) (Nat.le_refl _)) rfl ?_
  refine go_istore (q := 957) (gDec (iLw1_2_ok hs) 43 rfl) (Nat.le_of_ble_eq_true rfl) rfl ?_
  refine go_aload_n (q := 958) (gDec (iLw1_2_ok hs) 44 rfl) rfl rfl rfl ?_
  refine go_aload_n (q := 959) (gDec (iLw1_2_ok hs) 45 rfl) rfl rfl rfl ?_
  refine go_iload (q := 961) (gDec (iLw1_2_ok hs) 46 rfl) rfl rfl ?_
  refine go_iconst (v := nI 1) (q := 962) (gDec (iLw1_2_ok hs) 47 rfl) (by decide) rfl ?_
  refine go_iaddN (c := i + 1) (q := 963) (gDec (iLw1_2_ok hs) 48 rfl) rfl rfl ?_
  refine go_sld (q := 964) (gDec (iLw1_2_ok hs) 49 rfl) (vp_in_nI (by omega) (by omega)) rfl ?_
  refine go_top (v' := gX κ (i + 1)) (rfl) ?_
  refine go_aload_n (q := 965) (gDec (iLw1_2_ok hs) 50 rfl) rfl rfl rfl ?_
  refine go_iload (q := 967) (gDec (iLw1_2_ok hs) 51 rfl) rfl rfl ?_
  refine go_iconst (v := nI 2) (q := 968) (gDec (iLw1_2_ok hs) 52 rfl) (by decide) rfl ?_
  refine go_iaddN (c := i + 2) (q := 969) (gDec (iLw1_2_ok hs) 53 rfl) rfl rfl ?_
  refine go_sld (q := 970) (gDec (iLw1_2_ok hs) 54 rfl) (vp_in_nI (by omega) (by omega)) rfl ?_
  refine go_top (v' := gX κ (i + 2)) (rfl) ?_
  refine go_aload_n (q := 971) (gDec (iLw1_2_ok hs) 55 rfl) rfl rfl rfl ?_
  refine go_iload (q := 973) (gDec (iLw1_2_ok hs) 56 rfl) rfl rfl ?_
  refine go_iconst (v := nI 3) (q := 974) (gDec (iLw1_2_ok hs) 57 rfl) (by decide) rfl ?_
  refine go_iaddN (c := i + 3) (q := 975) (gDec (iLw1_2_ok hs) 58 rfl) rfl rfl ?_
  refine go_sld (q := 976) (gDec (iLw1_2_ok hs) 59 rfl) (vp_in_nI (by omega) (by omega)) rfl ?_
  refine go_top (v' := gX κ (i + 3)) (rfl) ?_
  refine go_callV (n2 := n + 1) (q := 979) kL_190 c1 (gDec (iLw1_3_ok hs) 0 rfl) rfl rfl (by decide) rfl rfl rfl (Nat.le_of_ble_eq_true rfl) rfl (hR _ _ (by decide) (Nat.le_refl _)) rfl ?_
  refine go_istore (q := 981) (gDec (iLw1_3_ok hs) 1 rfl) (Nat.le_of_ble_eq_true rfl) rfl ?_
  refine go_aload_n (q := 982) (gDec (iLw1_3_ok hs) 2 rfl) rfl rfl rfl ?_
  refine go_callV (n2 := n + 1) (q := 985) kL_157 (ctX11_thrown (κ := κ) (σ := s')) (gDec (iLw1_3_ok hs) 3 rfl) rfl rfl (by decide) rfl rfl rfl (Nat.le_of_ble_eq_true rfl) rfl (hR _ _ (by decide) (Nat.le_refl _)) rfl ?_
  refine go_top (v' := xC kOA (fSetSide σ (gX κ (i + 1)) (gX κ (i + 2)) (gX κ (i + 3))).1) (c2) ?_
  refine go_iload (q := 987) (gDec (iLw1_3_ok hs) 4 rfl) rfl rfl ?_
  refine go_icmp_eq (t := 992) (q := 990) (gDec (iLw1_3_ok hs) 5 rfl) (by decide) rfl (fun c987 => ?_) (fun c987 => False.elim (c987 rfl))
  refine go_iload (q := 994) (gDec (iLw1_3_ok hs) 8 rfl) rfl rfl ?_
  refine go_if_ne (t := 1009) (q := 997) (gDec (iLw1_3_ok hs) 9 rfl) (by decide) rfl (fun c994 => ?_) (fun c994 => ?_)
  · refine go_goto (t := 2942) (gDec (iLw1_3_ok hs) 19 rfl) (by decide) ?_
    refine go_sub (L' := [(0, .ref κ.2.2.2.2.1), (1, .ref (κ.2.1 + 0)), (2, .ref (κ.2.1 + 376)), (3, .ref (κ.2.1 + 390)), (4, .ref (κ.2.1 + 391)), (5, .int (nI i))]) ⟨rfl, rfl, rfl, rfl, rfl, rfl, trivial⟩ ?_
    exact hk s' c4
  · obtain ⟨v, he⟩ := (r_setSide (σ := σ) (a1 := (gX κ (i + 1))) (a2 := (gX κ (i + 2))) (a3 := (gX κ (i + 3)))).resolve_right (fun h9 => h9 c994)
    refine go_aload_n (q := 998) (gDec (iLw1_3_ok hs) 10 rfl) rfl rfl rfl ?_
    refine go_iconst (v := 0) (q := 999) (gDec (iLw1_3_ok hs) 11 rfl) (by decide) rfl ?_
    refine go_lald (q := 1000) (gDec (iLw1_3_ok hs) 12 rfl) rfl (by decide) vp_00 rfl ?_
    refine go_iload (q := 1002) (gDec (iLw1_3_ok hs) 13 rfl) rfl rfl ?_
    refine go_i2l (q := 1003) (gDec (iLw1_3_ok hs) 14 rfl) rfl ?_
    refine go_lcmp (q := 1004) (gDec (iLw1_3_ok hs) 15 rfl) rfl ?_
    refine go_top (v' := 0) ((lw_cmp he c3)) ?_
    refine go_if_eq (t := 1009) (q := 1007) (gDec (iLw1_3_ok hs) 16 rfl) (by decide) rfl (fun c1004 => ?_) (fun c1004 => False.elim (c1004 rfl))
    refine go_goto (t := 2942) (gDec (iLw1_3_ok hs) 19 rfl) (by decide) ?_
    refine go_sub (L' := [(0, .ref κ.2.2.2.2.1), (1, .ref (κ.2.1 + 0)), (2, .ref (κ.2.1 + 376)), (3, .ref (κ.2.1 + 390)), (4, .ref (κ.2.1 + 391)), (5, .int (nI i))]) ⟨rfl, rfl, rfl, rfl, rfl, rfl, trivial⟩ ?_
    exact hk s' c4
