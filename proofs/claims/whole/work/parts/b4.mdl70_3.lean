set_option maxHeartbeats 4000000 in
set_option maxRecDepth 100000 in
theorem lw_c30 {κ : gK} {hs : List (Nat × Nat × Nat × Nat)} {R : Room} {Z : gZ} {σ : gST} {n i : Nat} (h : gJ σ) (hi : i + 6 ≤ κ.2.2.2.2.2.1) (hL : κ.2.2.2.2.2.1 ≤ 3072) (hR : ∀ d m, d ≤ 10 → m ≤ n + 1 → gFit R d m) (hk : ∀ σ', gJ σ' → Go κ (mLw hs) R Z 2942 [(0, .ref κ.2.2.2.2.1), (1, .ref (κ.2.1 + 0)), (2, .ref (κ.2.1 + 376)), (3, .ref (κ.2.1 + 390)), (4, .ref (κ.2.1 + 391)), (5, .int (nI i))] [] σ' (n + 1)) : Go κ (mLw hs) R Z 2493 [(0, .ref κ.2.2.2.2.1), (1, .ref (κ.2.1 + 0)), (2, .ref (κ.2.1 + 376)), (3, .ref (κ.2.1 + 390)), (4, .ref (κ.2.1 + 391)), (5, .int (nI i))] [] σ n := by
  obtain ⟨s', c1, c2, c3, c4⟩ := j_lines (κ := κ) (σ := σ) (a1 := (gX κ (i + 1))) h
  refine go_aload_n (q := 2494) (gDec (iLw4_1_ok hs) 28 rfl) rfl rfl rfl ?_
  refine go_aload_n (q := 2495) (gDec (iLw4_1_ok hs) 29 rfl) rfl rfl rfl ?_
  refine go_iload (q := 2497) (gDec (iLw4_1_ok hs) 30 rfl) rfl rfl ?_
  refine go_iconst (v := nI 1) (q := 2498) (gDec (iLw4_1_ok hs) 31 rfl) (by decide) rfl ?_
  refine go_iaddN (c := i + 1) (q := 2499) (gDec (iLw4_1_ok hs) 32 rfl) rfl rfl ?_
  refine go_sld (q := 2500) (gDec (iLw4_1_ok hs) 33 rfl) (vp_in_nI (by omega) (by omega)) rfl ?_
  refine go_top (v' := gX κ (i + 1)) (rfl) ?_
  refine go_aload_n (q := 2501) (gDec (iLw4_1_ok hs) 34 rfl) rfl rfl rfl ?_
  refine go_callH (n2 := n + 1) (q := 2504) kL_257 rfl (ctL_lines (κ := κ) (σ := σ) (a1 := (gX κ (i + 1))) h) (gDec (iLw4_1_ok hs) 35 rfl) rfl rfl (Nat.le_of_ble_eq_true rfl) rfl (hR _ _ (by decide) (Nat.le_refl _)) rfl ?_
  refine go_istore (q := 2506) (gDec (iLw4_1_ok hs) 36 rfl) (Nat.le_of_ble_eq_true rfl) rfl ?_
  refine go_aload_n (q := 2507) (gDec (iLw4_1_ok hs) 37 rfl) rfl rfl rfl ?_
  refine go_aload_n (q := 2508) (gDec (iLw4_1_ok hs) 38 rfl) rfl rfl rfl ?_
  refine go_iload (q := 2510) (gDec (iLw4_1_ok hs) 39 rfl) rfl rfl ?_
  refine go_iconst (v := nI 1) (q := 2511) (gDec (iLw4_1_ok hs) 40 rfl) (by decide) rfl ?_
  refine go_iaddN (c := i + 1) (q := 2512) (gDec (iLw4_1_ok hs) 41 rfl) rfl rfl ?_
  refine go_sld (q := 2513) (gDec (iLw4_1_ok hs) 42 rfl) (vp_in_nI (by omega) (by omega)) rfl ?_
  refine go_top (v' := gX κ (i + 1)) (rfl) ?_
  refine go_callV (n2 := n + 1) (q := 2516) kL_259 c1 (gDec (iLw4_1_ok hs) 43 rfl) rfl rfl (by decide) rfl rfl rfl (Nat.le_of_ble_eq_true rfl) rfl (hR _ _ (by decide) (Nat.le_refl _)) rfl ?_
  refine go_istore (q := 2518) (gDec (iLw4_1_ok hs) 44 rfl) (Nat.le_of_ble_eq_true rfl) rfl ?_
  refine go_aload_n (q := 2519) (gDec (iLw4_1_ok hs) 45 rfl) rfl rfl rfl ?_
  refine go_callV (n2 := n + 1) (q := 2522) kL_157 (ctX11_thrown (κ := κ) (σ := s')) (gDec (iLw4_1_ok hs) 46 rfl) rfl rfl (by decide) rfl rfl rfl (Nat.le_of_ble_eq_true rfl) rfl (hR _ _ (by decide) (Nat.le_refl _)) rfl ?_
  refine go_top (v' := xC kA (fLines σ (gX κ (i + 1))).1) (c2) ?_
  refine go_iload (q := 2524) (gDec (iLw4_1_ok hs) 47 rfl) rfl rfl ?_
  refine go_icmp_eq (t := 2529) (q := 2527) (gDec (iLw4_1_ok hs) 48 rfl) (by decide) rfl (fun c2524 => ?_) (fun c2524 => False.elim (c2524 rfl))
  refine go_iload (q := 2531) (gDec (iLw4_1_ok hs) 51 rfl) rfl rfl ?_
  refine go_if_ne (t := 2546) (q := 2534) (gDec (iLw4_1_ok hs) 52 rfl) (by decide) rfl (fun c2531 => ?_) (fun c2531 => ?_)
  · refine go_goto (t := 2942) (gDec (iLw4_2_ok hs) 2 rfl) (by decide) ?_
    refine go_sub (L' := [(0, .ref κ.2.2.2.2.1), (1, .ref (κ.2.1 + 0)), (2, .ref (κ.2.1 + 376)), (3, .ref (κ.2.1 + 390)), (4, .ref (κ.2.1 + 391)), (5, .int (nI i))]) ⟨rfl, rfl, rfl, rfl, rfl, rfl, trivial⟩ ?_
    exact hk s' c4
  · obtain ⟨v, he⟩ := (r_lines (σ := σ) (a1 := (gX κ (i + 1)))).resolve_right (fun h9 => h9 c2531)
    refine go_aload_n (q := 2535) (gDec (iLw4_1_ok hs) 53 rfl) rfl rfl rfl ?_
    refine go_iconst (v := 0) (q := 2536) (gDec (iLw4_1_ok hs) 54 rfl) (by decide) rfl ?_
    refine go_lald (q := 2537) (gDec (iLw4_1_ok hs) 55 rfl) rfl (by decide) vp_00 rfl ?_
    refine go_iload (q := 2539) (gDec (iLw4_1_ok hs) 56 rfl) rfl rfl ?_
    refine go_i2l (q := 2540) (gDec (iLw4_1_ok hs) 57 rfl) rfl ?_
    refine go_lcmp (q := 2541) (gDec (iLw4_1_ok hs) 58 rfl) rfl ?_
    refine go_top (v' := 0) ((lw_cmp he c3)) ?_
    refine go_if_eq (t := 2546) (q := 2544) (gDec (iLw4_1_ok hs) 59 rfl) (by decide) rfl (fun c2541 => ?_) (fun c2541 => False.elim (c2541 rfl))
    refine go_goto (t := 2942) (gDec (iLw4_2_ok hs) 2 rfl) (by decide) ?_
    refine go_sub (L' := [(0, .ref κ.2.2.2.2.1), (1, .ref (κ.2.1 + 0)), (2, .ref (κ.2.1 + 376)), (3, .ref (κ.2.1 + 390)), (4, .ref (κ.2.1 + 391)), (5, .int (nI i))]) ⟨rfl, rfl, rfl, rfl, rfl, rfl, trivial⟩ ?_
    exact hk s' c4

set_option maxHeartbeats 4000000 in
set_option maxRecDepth 100000 in
theorem lw_c31 {κ : gK} {hs : List (Nat × Nat × Nat × Nat)} {R : Room} {Z : gZ} {σ : gST} {n i : Nat} (h : gJ σ) (hi : i + 6 ≤ κ.2.2.2.2.2.1) (hL : κ.2.2.2.2.2.1 ≤ 3072) (hR : ∀ d m, d ≤ 10 → m ≤ n + 1 → gFit R d m) (hk : ∀ σ', gJ σ' → Go κ (mLw hs) R Z 2942 [(0, .ref κ.2.2.2.2.1), (1, .ref (κ.2.1 + 0)), (2, .ref (κ.2.1 + 376)), (3, .ref (κ.2.1 + 390)), (4, .ref (κ.2.1 + 391)), (5, .int (nI i))] [] σ' (n + 1)) : Go κ (mLw hs) R Z 2549 [(0, .ref κ.2.2.2.2.1), (1, .ref (κ.2.1 + 0)), (2, .ref (κ.2.1 + 376)), (3, .ref (κ.2.1 + 390)), (4, .ref (κ.2.1 + 391)), (5, .int (nI i))] [] σ n := by
  obtain ⟨s', c1, c2, c3, c4⟩ := j_line (κ := κ) (σ := σ) (a1 := (gX κ (i + 1))) (a2 := (gX κ (i + 2))) (a3 := (gX κ (i + 3))) h
  refine go_aload_n (q := 2550) (gDec (iLw4_2_ok hs) 3 rfl) rfl rfl rfl ?_
  refine go_aload_n (q := 2551) (gDec (iLw4_2_ok hs) 4 rfl) rfl rfl rfl ?_
  refine go_iload (q := 2553) (gDec (iLw4_2_ok hs) 5 rfl) rfl rfl ?_
  refine go_iconst (v := nI 1) (q := 2554) (gDec (iLw4_2_ok hs) 6 rfl) (by decide) rfl ?_
  refine go_iaddN (c := i + 1) (q := 2555) (gDec (iLw4_2_ok hs) 7 rfl) rfl rfl ?_
  refine go_sld (q := 2556) (gDec (iLw4_2_ok hs) 8 rfl) (vp_in_nI (by omega) (by omega)) rfl ?_
  refine go_top (v' := gX κ (i + 1)) (rfl) ?_
  refine go_aload_n (q := 2557) (gDec (iLw4_2_ok hs) 9 rfl) rfl rfl rfl ?_
  refine go_iload (q := 2559) (gDec (iLw4_2_ok hs) 10 rfl) rfl rfl ?_
  refine go_iconst (v := nI 2) (q := 2560) (gDec (iLw4_2_ok hs) 11 rfl) (by decide) rfl ?_
  refine go_iaddN (c := i + 2) (q := 2561) (gDec (iLw4_2_ok hs) 12 rfl) rfl rfl ?_
  refine go_sld (q := 2562) (gDec (iLw4_2_ok hs) 13 rfl) (vp_in_nI (by omega) (by omega)) rfl ?_
  refine go_top (v' := gX κ (i + 2)) (rfl) ?_
  refine go_aload_n (q := 2563) (gDec (iLw4_2_ok hs) 14 rfl) rfl rfl rfl ?_
  refine go_iload (q := 2565) (gDec (iLw4_2_ok hs) 15 rfl) rfl rfl ?_
  refine go_iconst (v := nI 3) (q := 2566) (gDec (iLw4_2_ok hs) 16 rfl) (by decide) rfl ?_
  refine go_iaddN (c := i + 3) (q := 2567) (gDec (iLw4_2_ok hs) 17 rfl) rfl rfl ?_
  refine go_sld (q := 2568) (gDec (iLw4_2_ok hs) 18 rfl) (vp_in_nI (by omega) (by omega)) rfl ?_
  refine go_top (v' := gX κ (i + 3)) (rfl) ?_
  refine go_aload_n (q := 2569) (gDec (iLw4_2_ok hs) 19 rfl) rfl rfl rfl ?_
  refine go_callH (n2 := n + 1) (q := 2572) kL_260 rfl (ctL_line (κ := κ) (σ := σ) (a1 := (gX κ (i + 1))) (a2 := (gX κ (i + 2))) (a3 := (gX κ (i + 3))) h) (gDec (iLw4_2_ok hs) 20 rfl) rfl rfl (Nat.le_of_ble_eq_true rfl) rfl (hR _ _ (by decide) (Nat.le_refl _)) rfl ?_
  refine go_istore (q := 2574) (gDec (iLw4_2_ok hs) 21 rfl) (Nat.le_of_ble_eq_true rfl) rfl ?_
  refine go_aload_n (q := 2575) (gDec (iLw4_2_ok hs) 22 rfl) rfl rfl rfl ?_
  refine go_aload_n (q := 2576) (gDec (iLw4_2_ok hs) 23 rfl) rfl rfl rfl ?_
  refine go_iload (q := 2578) (gDec (iLw4_2_ok hs) 24 rfl) rfl rfl ?_
  refine go_iconst (v := nI 1) (q := 2579) (gDec (iLw4_2_ok hs) 25 rfl) (by decide) rfl ?_
  refine go_iaddN (c := i + 1) (q := 2580) (gDec (iLw4_2_ok hs) 26 rfl) rfl rfl ?_
  refine go_sld (q := 2581) (gDec (iLw4_2_ok hs) 27 rfl) (vp_in_nI (by omega) (by omega)) rfl ?_
  refine go_top (v' := gX κ (i + 1)) (rfl) ?_
  refine go_aload_n (q := 2582) (gDec (iLw4_2_ok hs) 28 rfl) rfl rfl rfl ?_
  refine go_iload (q := 2584) (gDec (iLw4_2_ok hs) 29 rfl) rfl rfl ?_
  refine go_iconst (v := nI 2) (q := 2585) (gDec (iLw4_2_ok hs) 30 rfl) (by decide) rfl ?_
  refine go_iaddN (c := i + 2) (q := 2586) (gDec (iLw4_2_ok hs) 31 rfl) rfl rfl ?_
  refine go_sld (q := 2587) (gDec (iLw4_2_ok hs) 32 rfl) (vp_in_nI (by omega) (by omega)) rfl ?_
  refine go_top (v' := gX κ (i + 2)) (rfl) ?_
  refine go_aload_n (q := 2588) (gDec (iLw4_2_ok hs) 33 rfl) rfl rfl rfl ?_
  refine go_iload (q := 2590) (gDec (iLw4_2_ok hs) 34 rfl) rfl rfl ?_
  refine go_iconst (v := nI 3) (q := 2591) (gDec (iLw4_2_ok hs) 35 rfl) (by decide) rfl ?_
  refine go_iaddN (c := i + 3) (q := 2592) (gDec (iLw4_2_ok hs) 36 rfl) rfl rfl ?_
  refine go_sld (q := 2593) (gDec (iLw4_2_ok hs) 37 rfl) (vp_in_nI (by omega) (by omega)) rfl ?_
  refine go_top (v' := gX κ (i + 3)) (rfl) ?_
  refine go_callV (n2 := n + 1) (q := 2596) kL_262 c1 (gDec (iLw4_2_ok hs) 38 rfl) rfl rfl (by decide) rfl rfl rfl (Nat.le_of_ble_eq_true rfl) rfl (hR _ _ (by decide) (Nat.le_refl _)) rfl ?_
  refine go_istore (q := 2598) (gDec (iLw4_2_ok hs) 39 rfl) (Nat.le_of_ble_eq_true rfl) rfl ?_
  refine go_aload_n (q := 2599) (gDec (iLw4_2_ok hs) 40 rfl) rfl rfl rfl ?_
  refine go_callV (n2 := n + 1) (q := 2602) kL_157 (ctX11_thrown (κ := κ) (σ := s')) (gDec (iLw4_2_ok hs) 41 rfl) rfl rfl (by decide) rfl rfl rfl (Nat.le_of_ble_eq_true rfl) rfl (hR _ _ (by decide) (Nat.le_refl _)) rfl ?_
  refine go_top (v' := xC kAN (fLine σ (gX κ (i + 1)) (gX κ (i + 2)) (gX κ (i + 3))).1) (c2) ?_
  refine go_iload (q := 2604) (gDec (iLw4_2_ok hs) 42 rfl) rfl rfl ?_
  refine go_icmp_eq (t := 2609) (q := 2607) (gDec (iLw4_2_ok hs) 43 rfl) (by decide) rfl (fun c2604 => ?_) (fun c2604 => False.elim (c2604 rfl))
  refine go_iload (q := 2611) (gDec (iLw4_2_ok hs) 46 rfl) rfl rfl ?_
  refine go_if_ne (t := 2626) (q := 2614) (gDec (iLw4_2_ok hs) 47 rfl) (by decide) rfl (fun c2611 => ?_) (fun c2611 => ?_)
  · refine go_goto (t := 2942) (gDec (iLw4_2_ok hs) 57 rfl) (by decide) ?_
    refine go_sub (L' := [(0, .ref κ.2.2.2.2.1), (1, .ref (κ.2.1 + 0)), (2, .ref (κ.2.1 + 376)), (3, .ref (κ.2.1 + 390)), (4, .ref (κ.2.1 + 391)), (5, .int (nI i))]) ⟨rfl, rfl, rfl, rfl, rfl, rfl, trivial⟩ ?_
    exact hk s' c4
  · obtain ⟨v, he⟩ := (r_line (σ := σ) (a1 := (gX κ (i + 1))) (a2 := (gX κ (i + 2))) (a3 := (gX κ (i + 3)))).resolve_right (fun h9 => h9 c2611)
    refine go_aload_n (q := 2615) (gDec (iLw4_2_ok hs) 48 rfl) rfl rfl rfl ?_
    refine go_iconst (v := 0) (q := 2616) (gDec (iLw4_2_ok hs) 49 rfl) (by decide) rfl ?_
    refine go_lald (q := 2617) (gDec (iLw4_2_ok hs) 50 rfl) rfl (by decide) vp_00 rfl ?_
    refine go_iload (q := 2619) (gDec (iLw4_2_ok hs) 51 rfl) rfl rfl ?_
    refine go_i2l (q := 2620) (gDec (iLw4_2_ok hs) 52 rfl) rfl ?_
    refine go_lcmp (q := 2621) (gDec (iLw4_2_ok hs) 53 rfl) rfl ?_
    refine go_top (v' := 0) ((lw_cmp he c3)) ?_
    refine go_if_eq (t := 2626) (q := 2624) (gDec (iLw4_2_ok hs) 54 rfl) (by decide) rfl (fun c2621 => ?_) (fun c2621 => False.elim (c2621 rfl))
    refine go_goto (t := 2942) (gDec (iLw4_2_ok hs) 57 rfl) (by decide) ?_
    refine go_sub (L' := [(0, .ref κ.2.2.2.2.1), (1, .ref (κ.2.1 + 0)), (2, .ref (κ.2.1 + 376)), (3, .ref (κ.2.1 + 390)), (4, .ref (κ.2.1 + 391)), (5, .int (nI i))]) ⟨rfl, rfl, rfl, rfl, rfl, rfl, trivial⟩ ?_
    exact hk s' c4

set_option maxHeartbeats 4000000 in
set_option maxRecDepth 100000 in
theorem lw_c32 {κ : gK} {hs : List (Nat × Nat × Nat × Nat)} {R : Room} {Z : gZ} {σ : gST} {n i : Nat} (h : gJ σ) (hi : i + 6 ≤ κ.2.2.2.2.2.1) (hL : κ.2.2.2.2.2.1 ≤ 3072) (hR : ∀ d m, d ≤ 10 → m ≤ n + 1 → gFit R d m) (hk : ∀ σ', gJ σ' → Go κ (mLw hs) R Z 2942 [(0, .ref κ.2.2.2.2.1), (1, .ref (κ.2.1 + 0)), (2, .ref (κ.2.1 + 376)), (3, .ref (κ.2.1 + 390)), (4, .ref (κ.2.1 + 391)), (5, .int (nI i))] [] σ' (n + 1)) : Go κ (mLw hs) R Z 2629 [(0, .ref κ.2.2.2.2.1), (1, .ref (κ.2.1 + 0)), (2, .ref (κ.2.1 + 376)), (3, .ref (κ.2.1 + 390)), (4, .ref (κ.2.1 + 391)), (5, .int (nI i))] [] σ n := by
  obtain ⟨s', c1, c2, c3, c4⟩ := j_leastMeasure (κ := κ) (σ := σ) (a1 := (gX κ (i + 1))) h
  refine go_aload_n (q := 2630) (gDec (iLw4_2_ok hs) 58 rfl) rfl rfl rfl ?_
  refine go_aload_n (q := 2631) (gDec (iLw4_2_ok hs) 59 rfl) rfl rfl rfl ?_
  refine go_iload (q := 2633) (gDec (iLw4_3_ok hs) 0 rfl) rfl rfl ?_
  refine go_iconst (v := nI 1) (q := 2634) (gDec (iLw4_3_ok hs) 1 rfl) (by decide) rfl ?_
  refine go_iaddN (c := i + 1) (q := 2635) (gDec (iLw4_3_ok hs) 2 rfl) rfl rfl ?_
  refine go_sld (q := 2636) (gDec (iLw4_3_ok hs) 3 rfl) (vp_in_nI (by omega) (by omega)) rfl ?_
  refine go_top (v' := gX κ (i + 1)) (rfl) ?_
  refine go_aload_n (q := 2637) (gDec (iLw4_3_ok hs) 4 rfl) rfl rfl rfl ?_
  refine go_callH (n2 := n + 1) (q := 2640) kL_263 rfl (ctL_leastMeasure (κ := κ) (σ := σ) (a1 := (gX κ (i + 1))) h) (gDec (iLw4_3_ok hs) 5 rfl) rfl rfl (Nat.le_of_ble_eq_true rfl) rfl (hR _ _ (by decide) (Nat.le_refl _)) rfl ?_
  refine go_istore (q := 2642) (gDec (iLw4_3_ok hs) 6 rfl) (Nat.le_of_ble_eq_true rfl) rfl ?_
  refine go_aload_n (q := 2643) (gDec (iLw4_3_ok hs) 7 rfl) rfl rfl rfl ?_
  refine go_aload_n (q := 2644) (gDec (iLw4_3_ok hs) 8 rfl) rfl rfl rfl ?_
  refine go_iload (q := 2646) (gDec (iLw4_3_ok hs) 9 rfl) rfl rfl ?_
  refine go_iconst (v := nI 1) (q := 2647) (gDec (iLw4_3_ok hs) 10 rfl) (by decide) rfl ?_
  refine go_iaddN (c := i + 1) (q := 2648) (gDec (iLw4_3_ok hs) 11 rfl) rfl rfl ?_
  refine go_sld (q := 2649) (gDec (iLw4_3_ok hs) 12 rfl) (vp_in_nI (by omega) (by omega)) rfl ?_
  refine go_top (v' := gX κ (i + 1)) (rfl) ?_
  refine go_callV (n2 := n + 1) (q := 2652) kL_265 c1 (gDec (iLw4_3_ok hs) 13 rfl) rfl rfl (by decide) rfl rfl rfl (Nat.le_of_ble_eq_true rfl) rfl (hR _ _ (by decide) (Nat.le_refl _)) rfl ?_
  refine go_istore (q := 2654) (gDec (iLw4_3_ok hs) 14 rfl) (Nat.le_of_ble_eq_true rfl) rfl ?_
  refine go_aload_n (q := 2655) (gDec (iLw4_3_ok hs) 15 rfl) rfl rfl rfl ?_
  refine go_callV (n2 := n + 1) (q := 2658) kL_157 (ctX11_thrown (κ := κ) (σ := s')) (gDec (iLw4_3_ok hs) 16 rfl) rfl rfl (by decide) rfl rfl rfl (Nat.le_of_ble_eq_true rfl) rfl (hR _ _ (by decide) (Nat.le_refl _)) rfl ?_
  refine go_top (v' := xC kAN (fLeast σ (gX κ (i + 1))).1) (c2) ?_
  refine go_iload (q := 2660) (gDec (iLw4_3_ok hs) 17 rfl) rfl rfl ?_
  refine go_icmp_eq (t := 2665) (q := 2663) (gDec (iLw4_3_ok hs) 18 rfl) (by decide) rfl (fun c2660 => ?_) (fun c2660 => False.elim (c2660 rfl))
  refine go_iload (q := 2667) (gDec (iLw4_3_ok hs) 21 rfl) rfl rfl ?_
  refine go_if_ne (t := 2682) (q := 2670) (gDec (iLw4_3_ok hs) 22 rfl) (by decide) rfl (fun c2667 => ?_) (fun c2667 => ?_)
  · refine go_goto (t := 2942) (gDec (iLw4_3_ok hs) 32 rfl) (by decide) ?_
    refine go_sub (L' := [(0, .ref κ.2.2.2.2.1), (1, .ref (κ.2.1 + 0)), (2, .ref (κ.2.1 + 376)), (3, .ref (κ.2.1 + 390)), (4, .ref (κ.2.1 + 391)), (5, .int (nI i))]) ⟨rfl, rfl, rfl, rfl, rfl, rfl, trivial⟩ ?_
    exact hk s' c4
  · obtain ⟨v, he⟩ := (r_leastMeasure (σ := σ) (a1 := (gX κ (i + 1)))).resolve_right (fun h9 => h9 c2667)
    refine go_aload_n (q := 2671) (gDec (iLw4_3_ok hs) 23 rfl) rfl rfl rfl ?_
    refine go_iconst (v := 0) (q := 2672) (gDec (iLw4_3_ok hs) 24 rfl) (by decide) rfl ?_
    refine go_lald (q := 2673) (gDec (iLw4_3_ok hs) 25 rfl) rfl (by decide) vp_00 rfl ?_
    refine go_iload (q := 2675) (gDec (iLw4_3_ok hs) 26 rfl) rfl rfl ?_
    refine go_i2l (q := 2676) (gDec (iLw4_3_ok hs) 27 rfl) rfl ?_
    refine go_lcmp (q := 2677) (gDec (iLw4_3_ok hs) 28 rfl) rfl ?_
    refine go_top (v' := 0) ((lw_cmp he c3)) ?_
    refine go_if_eq (t := 2682) (q := 2680) (gDec (iLw4_3_ok hs) 29 rfl) (by decide) rfl (fun c2677 => ?_) (fun c2677 => False.elim (c2677 rfl))
    refine go_goto (t := 2942) (gDec (iLw4_3_ok hs) 32 rfl) (by decide) ?_
    refine go_sub (L' := [(0, .ref κ.2.2.2.2.1), (1, .ref (κ.2.1 + 0)), (2, .ref (κ.2.1 + 376)), (3, .ref (κ.2.1 + 390)), (4, .ref (κ.2.1 + 391)), (5, .int (nI i))]) ⟨rfl, rfl, rfl, rfl, rfl, rfl, trivial⟩ ?_
    exact hk s' c4

set_option maxHeartbeats 4000000 in
set_option maxRecDepth 100000 in
theorem lw_c33 {κ : gK} {hs : List (Nat × Nat × Nat × Nat)} {R : Room} {Z : gZ} {σ : gST} {n i : Nat} (h : gJ σ) (hi : i + 6 ≤ κ.2.2.2.2.2.1) (hL : κ.2.2.2.2.2.1 ≤ 3072) (hR : ∀ d m, d ≤ 10 → m ≤ n + 1 → gFit R d m) (hk : ∀ σ', gJ σ' → Go κ (mLw hs) R Z 2942 [(0, .ref κ.2.2.2.2.1), (1, .ref (κ.2.1 + 0)), (2, .ref (κ.2.1 + 376)), (3, .ref (κ.2.1 + 390)), (4, .ref (κ.2.1 + 391)), (5, .int (nI i))] [] σ' (n + 1)) : Go κ (mLw hs) R Z 2685 [(0, .ref κ.2.2.2.2.1), (1, .ref (κ.2.1 + 0)), (2, .ref (κ.2.1 + 376)), (3, .ref (κ.2.1 + 390)), (4, .ref (κ.2.1 + 391)), (5, .int (nI i))] [] σ n := by
  obtain ⟨s', c1, c2, c3, c4⟩ := j_meanAdvance (κ := κ) (σ := σ) h
  refine go_aload_n (q := 2686) (gDec (iLw4_3_ok hs) 33 rfl) rfl rfl rfl ?_
  refine go_aload (q := 2688) (gDec (iLw4_3_ok hs) 34 rfl) rfl rfl ?_
  refine go_callH (n2 := n + 1) (q := 2691) kL_266 rfl (ctL_meanAdvance (κ := κ) (σ := σ) h) (gDec (iLw4_3_ok hs) 35 rfl) rfl rfl (Nat.le_of_ble_eq_true rfl) rfl (hR _ _ (by decide) (Nat.le_refl _)) rfl ?_
  refine go_istore (q := 2693) (gDec (iLw4_3_ok hs) 36 rfl) (Nat.le_of_ble_eq_true rfl) rfl ?_
  refine go_aload_n (q := 2694) (gDec (iLw4_3_ok hs) 37 rfl) rfl rfl rfl ?_
  refine go_callV (n2 := n + 1) (q := 2697) kL_269 c1 (gDec (iLw4_3_ok hs) 38 rfl) rfl rfl (by decide) rfl rfl rfl (Nat.le_of_ble_eq_true rfl) rfl (hR _ _ (by decide) (Nat.le_refl _)) rfl ?_
  refine go_dstore (q := 2699) (gDec (iLw4_3_ok hs) 39 rfl) (Nat.le_of_ble_eq_true rfl) rfl ?_
  refine go_aload_n (q := 2700) (gDec (iLw4_3_ok hs) 40 rfl) rfl rfl rfl ?_
  refine go_callV (n2 := n + 1) (q := 2703) kL_157 (ctX11_thrown (κ := κ) (σ := s')) (gDec (iLw4_3_ok hs) 41 rfl) rfl rfl (by decide) rfl rfl rfl (Nat.le_of_ble_eq_true rfl) rfl (hR _ _ (by decide) (Nat.le_refl _)) rfl ?_
  refine go_top (v' := xC kR (fMean σ).1) (c2) ?_
  refine go_iload (q := 2705) (gDec (iLw4_3_ok hs) 42 rfl) rfl rfl ?_
  refine go_icmp_eq (t := 2710) (q := 2708) (gDec (iLw4_3_ok hs) 43 rfl) (by decide) rfl (fun c2705 => ?_) (fun c2705 => False.elim (c2705 rfl))
  refine go_iload (q := 2712) (gDec (iLw4_3_ok hs) 46 rfl) rfl rfl ?_
  refine go_if_ne (t := 2747) (q := 2715) (gDec (iLw4_3_ok hs) 47 rfl) (by decide) rfl (fun c2712 => ?_) (fun c2712 => ?_)
  · refine go_goto (t := 2942) (gDec (iLw4_4_ok hs) 8 rfl) (by decide) ?_
    refine go_sub (L' := [(0, .ref κ.2.2.2.2.1), (1, .ref (κ.2.1 + 0)), (2, .ref (κ.2.1 + 376)), (3, .ref (κ.2.1 + 390)), (4, .ref (κ.2.1 + 391)), (5, .int (nI i))]) ⟨rfl, rfl, rfl, rfl, rfl, rfl, trivial⟩ ?_
    exact hk s' c4
  · have hg : ¬ gNg σ = 0 := fun h9 => absurd (c2712.symm.trans (congrArg (fun x => xC kR x.1) (show fMean σ = (xARI, σ) from if_pos h9))) (by rw [xc_R_R]; decide)
    have he : (fMean σ).1 = .inl (some (.double (gMean σ))) := congrArg Prod.fst (show fMean σ = (.inl (some (.double (gMean σ))), σ) from if_neg hg)
    refine go_aload (q := 2717) (gDec (iLw4_3_ok hs) 48 rfl) rfl rfl ?_
    refine go_iconst (v := 0) (q := 2718) (gDec (iLw4_3_ok hs) 49 rfl) (by decide) rfl ?_
    refine go_dald (q := 2719) (gDec (iLw4_3_ok hs) 50 rfl) rfl (by decide) vp_00 rfl ?_
    refine go_dload (q := 2721) (gDec (iLw4_3_ok hs) 51 rfl) rfl rfl ?_
    refine go_dcmp (q := 2722) (gDec (iLw4_3_ok hs) 52 rfl) rfl ?_
    refine go_top (v' := 0) ((by rw [c3, gOo_d he, he]; exact lw_dc (gMean_n (by omega) h.ci.dw.ng24))) ?_
    refine go_if_eq (t := 2747) (q := 2725) (gDec (iLw4_3_ok hs) 53 rfl) (by decide) rfl (fun c2722 => ?_) (fun c2722 => False.elim (c2722 rfl))
    refine go_goto (t := 2942) (gDec (iLw4_4_ok hs) 8 rfl) (by decide) ?_
    refine go_sub (L' := [(0, .ref κ.2.2.2.2.1), (1, .ref (κ.2.1 + 0)), (2, .ref (κ.2.1 + 376)), (3, .ref (κ.2.1 + 390)), (4, .ref (κ.2.1 + 391)), (5, .int (nI i))]) ⟨rfl, rfl, rfl, rfl, rfl, rfl, trivial⟩ ?_
    exact hk s' c4

set_option maxHeartbeats 4000000 in
set_option maxRecDepth 100000 in
theorem lw_c34 {κ : gK} {hs : List (Nat × Nat × Nat × Nat)} {R : Room} {Z : gZ} {σ : gST} {n i : Nat} (h : gJ σ) (hi : i + 6 ≤ κ.2.2.2.2.2.1) (hL : κ.2.2.2.2.2.1 ≤ 3072) (hR : ∀ d m, d ≤ 10 → m ≤ n + 1 → gFit R d m) (hk : ∀ σ', gJ σ' → Go κ (mLw hs) R Z 2942 [(0, .ref κ.2.2.2.2.1), (1, .ref (κ.2.1 + 0)), (2, .ref (κ.2.1 + 376)), (3, .ref (κ.2.1 + 390)), (4, .ref (κ.2.1 + 391)), (5, .int (nI i))] [] σ' (n + 1)) : Go κ (mLw hs) R Z 2750 [(0, .ref κ.2.2.2.2.1), (1, .ref (κ.2.1 + 0)), (2, .ref (κ.2.1 + 376)), (3, .ref (κ.2.1 + 390)), (4, .ref (κ.2.1 + 391)), (5, .int (nI i))] [] σ n := by
  obtain ⟨s', c1, c2, c3, c4⟩ := j_account (κ := κ) (σ := σ) (a1 := (gX κ (i + 1))) h
  refine go_aload_n (q := 2751) (gDec (iLw4_4_ok hs) 9 rfl) rfl rfl rfl ?_
  refine go_aload_n (q := 2752) (gDec (iLw4_4_ok hs) 10 rfl) rfl rfl rfl ?_
  refine go_iload (q := 2754) (gDec (iLw4_4_ok hs) 11 rfl) rfl rfl ?_
  refine go_iconst (v := nI 1) (q := 2755) (gDec (iLw4_4_ok hs) 12 rfl) (by decide) rfl ?_
  refine go_iaddN (c := i + 1) (q := 2756) (gDec (iLw4_4_ok hs) 13 rfl) rfl rfl ?_
  refine go_sld (q := 2757) (gDec (iLw4_4_ok hs) 14 rfl) (vp_in_nI (by omega) (by omega)) rfl ?_
  refine go_top (v' := gX κ (i + 1)) (rfl) ?_
  refine go_aload_n (q := 2758) (gDec (iLw4_4_ok hs) 15 rfl) rfl rfl rfl ?_
  refine go_callH (n2 := n + 1) (q := 2761) kL_270 rfl (ctL_account (κ := κ) (σ := σ) (a1 := (gX κ (i + 1))) h) (gDec (iLw4_4_ok hs) 16 rfl) rfl rfl (Nat.le_of_ble_eq_true rfl) rfl (hR _ _ (by decide) (Nat.le_refl _)) rfl ?_
  refine go_istore (q := 2763) (gDec (iLw4_4_ok hs) 17 rfl) (Nat.le_of_ble_eq_true rfl) rfl ?_
  refine go_aload_n (q := 2764) (gDec (iLw4_4_ok hs) 18 rfl) rfl rfl rfl ?_
  refine go_aload_n (q := 2765) (gDec (iLw4_4_ok hs) 19 rfl) rfl rfl rfl ?_
  refine go_iload (q := 2767) (gDec (iLw4_4_ok hs) 20 rfl) rfl rfl ?_
  refine go_iconst (v := nI 1) (q := 2768) (gDec (iLw4_4_ok hs) 21 rfl) (by decide) rfl ?_
  refine go_iaddN (c := i + 1) (q := 2769) (gDec (iLw4_4_ok hs) 22 rfl) rfl rfl ?_
  refine go_sld (q := 2770) (gDec (iLw4_4_ok hs) 23 rfl) (vp_in_nI (by omega) (by omega)) rfl ?_
  refine go_top (v' := gX κ (i + 1)) (rfl) ?_
  refine go_callV (n2 := n + 1) (q := 2773) kL_272 c1 (gDec (iLw4_4_ok hs) 24 rfl) rfl rfl (by decide) rfl rfl rfl (Nat.le_of_ble_eq_true rfl) rfl (hR _ _ (by decide) (Nat.le_refl _)) rfl ?_
  refine go_istore (q := 2775) (gDec (iLw4_4_ok hs) 25 rfl) (Nat.le_of_ble_eq_true rfl) rfl ?_
  refine go_aload_n (q := 2776) (gDec (iLw4_4_ok hs) 26 rfl) rfl rfl rfl ?_
  refine go_callV (n2 := n + 1) (q := 2779) kL_157 (ctX11_thrown (κ := κ) (σ := s')) (gDec (iLw4_4_ok hs) 27 rfl) rfl rfl (by decide) rfl rfl rfl (Nat.le_of_ble_eq_true rfl) rfl (hR _ _ (by decide) (Nat.le_refl _)) rfl ?_
  refine go_top (v' := xC kA (fAccount σ (gX κ (i + 1))).1) (c2) ?_
  refine go_iload (q := 2781) (gDec (iLw4_4_ok hs) 28 rfl) rfl rfl ?_
  refine go_icmp_eq (t := 2786) (q := 2784) (gDec (iLw4_4_ok hs) 29 rfl) (by decide) rfl (fun c2781 => ?_) (fun c2781 => False.elim (c2781 rfl))
  refine go_iload (q := 2788) (gDec (iLw4_4_ok hs) 32 rfl) rfl rfl ?_
  refine go_if_ne (t := 2803) (q := 2791) (gDec (iLw4_4_ok hs) 33 rfl) (by decide) rfl (fun c2788 => ?_) (fun c2788 => ?_)
  · refine go_goto (t := 2942) (gDec (iLw4_4_ok hs) 43 rfl) (by decide) ?_
    refine go_sub (L' := [(0, .ref κ.2.2.2.2.1), (1, .ref (κ.2.1 + 0)), (2, .ref (κ.2.1 + 376)), (3, .ref (κ.2.1 + 390)), (4, .ref (κ.2.1 + 391)), (5, .int (nI i))]) ⟨rfl, rfl, rfl, rfl, rfl, rfl, trivial⟩ ?_
    exact hk s' c4
  · obtain ⟨v, he⟩ := (r_account (σ := σ) (a1 := (gX κ (i + 1)))).resolve_right (fun h9 => h9 c2788)
    refine go_aload_n (q := 2792) (gDec (iLw4_4_ok hs) 34 rfl) rfl rfl rfl ?_
    refine go_iconst (v := 0) (q := 2793) (gDec (iLw4_4_ok hs) 35 rfl) (by decide) rfl ?_
    refine go_lald (q := 2794) (gDec (iLw4_4_ok hs) 36 rfl) rfl (by decide) vp_00 rfl ?_
    refine go_iload (q := 2796) (gDec (iLw4_4_ok hs) 37 rfl) rfl rfl ?_
    refine go_i2l (q := 2797) (gDec (iLw4_4_ok hs) 38 rfl) rfl ?_
    refine go_lcmp (q := 2798) (gDec (iLw4_4_ok hs) 39 rfl) rfl ?_
    refine go_top (v' := 0) ((lw_cmp he c3)) ?_
    refine go_if_eq (t := 2803) (q := 2801) (gDec (iLw4_4_ok hs) 40 rfl) (by decide) rfl (fun c2798 => ?_) (fun c2798 => False.elim (c2798 rfl))
    refine go_goto (t := 2942) (gDec (iLw4_4_ok hs) 43 rfl) (by decide) ?_
    refine go_sub (L' := [(0, .ref κ.2.2.2.2.1), (1, .ref (κ.2.1 + 0)), (2, .ref (κ.2.1 + 376)), (3, .ref (κ.2.1 + 390)), (4, .ref (κ.2.1 + 391)), (5, .int (nI i))]) ⟨rfl, rfl, rfl, rfl, rfl, rfl, trivial⟩ ?_
    exact hk s' c4

set_option maxHeartbeats 4000000 in
set_option maxRecDepth 100000 in
theorem lw_c35 {κ : gK} {hs : List (Nat × Nat × Nat × Nat)} {R : Room} {Z : gZ} {σ : gST} {n i : Nat} (h : gJ σ) (hi : i + 6 ≤ κ.2.2.2.2.2.1) (hL : κ.2.2.2.2.2.1 ≤ 3072) (hR : ∀ d m, d ≤ 10 → m ≤ n + 1 → gFit R d m) (hk : ∀ σ', gJ σ' → Go κ (mLw hs) R Z 2942 [(0, .ref κ.2.2.2.2.1), (1, .ref (κ.2.1 + 0)), (2, .ref (κ.2.1 + 376)), (3, .ref (κ.2.1 + 390)), (4, .ref (κ.2.1 + 391)), (5, .int (nI i))] [] σ' (n + 1)) : Go κ (mLw hs) R Z 2806 [(0, .ref κ.2.2.2.2.1), (1, .ref (κ.2.1 + 0)), (2, .ref (κ.2.1 + 376)), (3, .ref (κ.2.1 + 390)), (4, .ref (κ.2.1 + 391)), (5, .int (nI i))] [] σ n := by
  obtain ⟨s', c1, c2, c3, c4⟩ := j_readGlyph (κ := κ) (σ := σ) h
  refine go_aload_n (q := 2807) (gDec (iLw4_4_ok hs) 44 rfl) rfl rfl rfl ?_
  refine go_aload_n (q := 2808) (gDec (iLw4_4_ok hs) 45 rfl) rfl rfl rfl ?_
  refine go_callH (n2 := n + 1) (q := 2811) kL_273 rfl (ctL_readGlyph (κ := κ) (σ := σ) h) (gDec (iLw4_4_ok hs) 46 rfl) rfl rfl (Nat.le_of_ble_eq_true rfl) rfl (hR _ _ (by decide) (Nat.le_refl _)) rfl ?_
  refine go_istore (q := 2813) (gDec (iLw4_4_ok hs) 47 rfl) (Nat.le_of_ble_eq_true rfl) rfl ?_
  refine go_aload_n (q := 2814) (gDec (iLw4_4_ok hs) 48 rfl) rfl rfl rfl ?_
  refine go_callV (n2 := n + 1) (q := 2817) kL_275 c1 (gDec (iLw4_4_ok hs) 49 rfl) rfl rfl (by decide) rfl rfl rfl (Nat.le_of_ble_eq_true rfl) rfl (hR _ _ (by decide) (Nat.le_refl _)) rfl ?_
  refine go_istore (q := 2819) (gDec (iLw4_4_ok hs) 50 rfl) (Nat.le_of_ble_eq_true rfl) rfl ?_
  refine go_aload_n (q := 2820) (gDec (iLw4_4_ok hs) 51 rfl) rfl rfl rfl ?_
  refine go_callV (n2 := n + 1) (q := 2823) kL_157 (ctX11_thrown (κ := κ) (σ := s')) (gDec (iLw4_4_ok hs) 52 rfl) rfl rfl (by decide) rfl rfl rfl (Nat.le_of_ble_eq_true rfl) rfl (hR _ _ (by decide) (Nat.le_refl _)) rfl ?_
  refine go_top (v' := xC kAS (fRead σ).1) (c2) ?_
  refine go_iload (q := 2825) (gDec (iLw4_4_ok hs) 53 rfl) rfl rfl ?_
  refine go_icmp_eq (t := 2830) (q := 2828) (gDec (iLw4_4_ok hs) 54 rfl) (by decide) rfl (fun c2825 => ?_) (fun c2825 => False.elim (c2825 rfl))
  refine go_iload (q := 2832) (gDec (iLw4_4_ok hs) 57 rfl) rfl rfl ?_
  refine go_if_ne (t := 2847) (q := 2835) (gDec (iLw4_4_ok hs) 58 rfl) (by decide) rfl (fun c2832 => ?_) (fun c2832 => ?_)
  · refine go_goto (t := 2942) (gDec (iLw4_5_ok hs) 8 rfl) (by decide) ?_
    refine go_sub (L' := [(0, .ref κ.2.2.2.2.1), (1, .ref (κ.2.1 + 0)), (2, .ref (κ.2.1 + 376)), (3, .ref (κ.2.1 + 390)), (4, .ref (κ.2.1 + 391)), (5, .int (nI i))]) ⟨rfl, rfl, rfl, rfl, rfl, rfl, trivial⟩ ?_
    exact hk s' c4
  · obtain ⟨v, he⟩ := (r_readGlyph (σ := σ)).resolve_right (fun h9 => h9 c2832)
    refine go_aload_n (q := 2836) (gDec (iLw4_4_ok hs) 59 rfl) rfl rfl rfl ?_
    refine go_iconst (v := 0) (q := 2837) (gDec (iLw4_5_ok hs) 0 rfl) (by decide) rfl ?_
    refine go_lald (q := 2838) (gDec (iLw4_5_ok hs) 1 rfl) rfl (by decide) vp_00 rfl ?_
    refine go_iload (q := 2840) (gDec (iLw4_5_ok hs) 2 rfl) rfl rfl ?_
    refine go_i2l (q := 2841) (gDec (iLw4_5_ok hs) 3 rfl) rfl ?_
    refine go_lcmp (q := 2842) (gDec (iLw4_5_ok hs) 4 rfl) rfl ?_
    refine go_top (v' := 0) ((lw_cmp he c3)) ?_
    refine go_if_eq (t := 2847) (q := 2845) (gDec (iLw4_5_ok hs) 5 rfl) (by decide) rfl (fun c2842 => ?_) (fun c2842 => False.elim (c2842 rfl))
    refine go_goto (t := 2942) (gDec (iLw4_5_ok hs) 8 rfl) (by decide) ?_
    refine go_sub (L' := [(0, .ref κ.2.2.2.2.1), (1, .ref (κ.2.1 + 0)), (2, .ref (κ.2.1 + 376)), (3, .ref (κ.2.1 + 390)), (4, .ref (κ.2.1 + 391)), (5, .int (nI i))]) ⟨rfl, rfl, rfl, rfl, rfl, rfl, trivial⟩ ?_
    exact hk s' c4

set_option maxHeartbeats 4000000 in
set_option maxRecDepth 100000 in
theorem lw_c37 {κ : gK} {hs : List (Nat × Nat × Nat × Nat)} {R : Room} {Z : gZ} {σ : gST} {n i : Nat} (h : gJ σ) (hi : i + 6 ≤ κ.2.2.2.2.2.1) (hL : κ.2.2.2.2.2.1 ≤ 3072) (hR : ∀ d m, d ≤ 10 → m ≤ n + 1 → gFit R d m) (hk : ∀ σ', gJ σ' → Go κ (mLw hs) R Z 2942 [(0, .ref κ.2.2.2.2.1), (1, .ref (κ.2.1 + 0)), (2, .ref (κ.2.1 + 376)), (3, .ref (κ.2.1 + 390)), (4, .ref (κ.2.1 + 391)), (5, .int (nI i))] [] σ' (n + 1)) : Go κ (mLw hs) R Z 2863 [(0, .ref κ.2.2.2.2.1), (1, .ref (κ.2.1 + 0)), (2, .ref (κ.2.1 + 376)), (3, .ref (κ.2.1 + 390)), (4, .ref (κ.2.1 + 391)), (5, .int (nI i))] [] σ n := by
  obtain ⟨s', c1, c2, c3, c4⟩ := j_undo (κ := κ) (σ := σ) h
  refine go_aload_n (q := 2864) (gDec (iLw4_5_ok hs) 16 rfl) rfl rfl rfl ?_
  refine go_aload_n (q := 2865) (gDec (iLw4_5_ok hs) 17 rfl) rfl rfl rfl ?_
  refine go_callH (n2 := n + 1) (q := 2868) kL_280 rfl (ctL_undo (κ := κ) (σ := σ) h) (gDec (iLw4_5_ok hs) 18 rfl) rfl rfl (Nat.le_of_ble_eq_true rfl) rfl (hR _ _ (by decide) (Nat.le_refl _)) rfl ?_
  refine go_istore (q := 2870) (gDec (iLw4_5_ok hs) 19 rfl) (Nat.le_of_ble_eq_true rfl) rfl ?_
  refine go_aload_n (q := 2871) (gDec (iLw4_5_ok hs) 20 rfl) rfl rfl rfl ?_
  refine go_callV (n2 := n + 1) (q := 2874) kL_282 c1 (gDec (iLw4_5_ok hs) 21 rfl) rfl rfl (by decide) rfl rfl rfl (Nat.le_of_ble_eq_true rfl) rfl (hR _ _ (by decide) (Nat.le_refl _)) rfl ?_
  refine go_istore (q := 2876) (gDec (iLw4_5_ok hs) 22 rfl) (Nat.le_of_ble_eq_true rfl) rfl ?_
  refine go_aload_n (q := 2877) (gDec (iLw4_5_ok hs) 23 rfl) rfl rfl rfl ?_
  refine go_callV (n2 := n + 1) (q := 2880) kL_157 (ctX11_thrown (κ := κ) (σ := s')) (gDec (iLw4_5_ok hs) 24 rfl) rfl rfl (by decide) rfl rfl rfl (Nat.le_of_ble_eq_true rfl) rfl (hR _ _ (by decide) (Nat.le_refl _)) rfl ?_
  refine go_top (v' := xC kS (fUndo σ).1) (c2) ?_
  refine go_iload (q := 2882) (gDec (iLw4_5_ok hs) 25 rfl) rfl rfl ?_
  refine go_icmp_eq (t := 2887) (q := 2885) (gDec (iLw4_5_ok hs) 26 rfl) (by decide) rfl (fun c2882 => ?_) (fun c2882 => False.elim (c2882 rfl))
  refine go_iload (q := 2889) (gDec (iLw4_5_ok hs) 29 rfl) rfl rfl ?_
  refine go_if_ne (t := 2904) (q := 2892) (gDec (iLw4_5_ok hs) 30 rfl) (by decide) rfl (fun c2889 => ?_) (fun c2889 => ?_)
  · refine go_goto (t := 2942) (gDec (iLw4_5_ok hs) 40 rfl) (by decide) ?_
    refine go_sub (L' := [(0, .ref κ.2.2.2.2.1), (1, .ref (κ.2.1 + 0)), (2, .ref (κ.2.1 + 376)), (3, .ref (κ.2.1 + 390)), (4, .ref (κ.2.1 + 391)), (5, .int (nI i))]) ⟨rfl, rfl, rfl, rfl, rfl, rfl, trivial⟩ ?_
    exact hk s' c4
  · obtain ⟨v, he⟩ := (r_undo (σ := σ)).resolve_right (fun h9 => h9 c2889)
    refine go_aload_n (q := 2893) (gDec (iLw4_5_ok hs) 31 rfl) rfl rfl rfl ?_
    refine go_iconst (v := 0) (q := 2894) (gDec (iLw4_5_ok hs) 32 rfl) (by decide) rfl ?_
    refine go_lald (q := 2895) (gDec (iLw4_5_ok hs) 33 rfl) rfl (by decide) vp_00 rfl ?_
    refine go_iload (q := 2897) (gDec (iLw4_5_ok hs) 34 rfl) rfl rfl ?_
    refine go_i2l (q := 2898) (gDec (iLw4_5_ok hs) 35 rfl) rfl ?_
    refine go_lcmp (q := 2899) (gDec (iLw4_5_ok hs) 36 rfl) rfl ?_
    refine go_top (v' := 0) ((lw_cmp he c3)) ?_
    refine go_if_eq (t := 2904) (q := 2902) (gDec (iLw4_5_ok hs) 37 rfl) (by decide) rfl (fun c2899 => ?_) (fun c2899 => False.elim (c2899 rfl))
    refine go_goto (t := 2942) (gDec (iLw4_5_ok hs) 40 rfl) (by decide) ?_
    refine go_sub (L' := [(0, .ref κ.2.2.2.2.1), (1, .ref (κ.2.1 + 0)), (2, .ref (κ.2.1 + 376)), (3, .ref (κ.2.1 + 390)), (4, .ref (κ.2.1 + 391)), (5, .int (nI i))]) ⟨rfl, rfl, rfl, rfl, rfl, rfl, trivial⟩ ?_
    exact hk s' c4

set_option maxHeartbeats 4000000 in
set_option maxRecDepth 100000 in
theorem lw_c39 {κ : gK} {hs : List (Nat × Nat × Nat × Nat)} {R : Room} {Z : gZ} {σ : gST} {n i : Nat} (h : gJ σ) (hi : i + 6 ≤ κ.2.2.2.2.2.1) (hL : κ.2.2.2.2.2.1 ≤ 3072) (hR : ∀ d m, d ≤ 10 → m ≤ n + 1 → gFit R d m) (hk : ∀ σ', gJ σ' → Go κ (mLw hs) R Z 2942 [(0, .ref κ.2.2.2.2.1), (1, .ref (κ.2.1 + 0)), (2, .ref (κ.2.1 + 376)), (3, .ref (κ.2.1 + 390)), (4, .ref (κ.2.1 + 391)), (5, .int (nI i))] [] σ' (n + 1)) : Go κ (mLw hs) R Z 2918 [(0, .ref κ.2.2.2.2.1), (1, .ref (κ.2.1 + 0)), (2, .ref (κ.2.1 + 376)), (3, .ref (κ.2.1 + 390)), (4, .ref (κ.2.1 + 391)), (5, .int (nI i))] [] σ n := by
  obtain ⟨s', c1, c2, c3, c4⟩ := j_restore (κ := κ) (σ := σ) h
  refine go_aload_n (q := 2919) (gDec (iLw4_5_ok hs) 46 rfl) rfl rfl rfl ?_
  refine go_callH (n2 := n + 1) (q := 2922) kL_287 rfl (ctL_restore (κ := κ) (σ := σ) h) (gDec (iLw4_5_ok hs) 47 rfl) rfl rfl (Nat.le_of_ble_eq_true rfl) rfl (hR _ _ (by decide) (Nat.le_refl _)) rfl ?_
  refine go_istore (q := 2924) (gDec (iLw4_5_ok hs) 48 rfl) (Nat.le_of_ble_eq_true rfl) rfl ?_
  refine go_aload_n (q := 2925) (gDec (iLw4_5_ok hs) 49 rfl) rfl rfl rfl ?_
  refine go_callV (n2 := n + 1) (q := 2928) kL_290 c1 (gDec (iLw4_5_ok hs) 50 rfl) rfl rfl (by decide) rfl rfl rfl (Nat.le_of_ble_eq_true rfl) rfl (hR _ _ (by decide) (Nat.le_refl _)) rfl ?_
  refine go_aload_n (q := 2929) (gDec (iLw4_5_ok hs) 51 rfl) rfl rfl rfl ?_
  refine go_callV (n2 := n + 1) (q := 2932) kL_157 (ctX11_thrown (κ := κ) (σ := s')) (gDec (iLw4_5_ok hs) 52 rfl) rfl rfl (by decide) rfl rfl rfl (Nat.le_of_ble_eq_true rfl) rfl (hR _ _ (by decide) (Nat.le_refl _)) rfl ?_
  refine go_top (v' := xC kS (fRestore σ).1) (c2) ?_
  refine go_iload (q := 2934) (gDec (iLw4_5_ok hs) 53 rfl) rfl rfl ?_
  refine go_icmp_eq (t := 2939) (q := 2937) (gDec (iLw4_5_ok hs) 54 rfl) (by decide) rfl (fun c2934 => ?_) (fun c2934 => False.elim (c2934 rfl))
  refine go_goto (t := 2942) (gDec (iLw4_5_ok hs) 57 rfl) (by decide) ?_
  refine go_sub (L' := [(0, .ref κ.2.2.2.2.1), (1, .ref (κ.2.1 + 0)), (2, .ref (κ.2.1 + 376)), (3, .ref (κ.2.1 + 390)), (4, .ref (κ.2.1 + 391)), (5, .int (nI i))]) ⟨rfl, rfl, rfl, rfl, rfl, rfl, trivial⟩ ?_
  exact hk s' c4
