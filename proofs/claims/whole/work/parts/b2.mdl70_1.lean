set_option maxHeartbeats 4000000 in
set_option maxRecDepth 100000 in
theorem lw_c10 {κ : gK} {hs : List (Nat × Nat × Nat × Nat)} {R : Room} {Z : gZ} {σ : gST} {n i : Nat} (h : gJ σ) (hi : i + 6 ≤ κ.2.2.2.2.2.1) (hL : κ.2.2.2.2.2.1 ≤ 3072) (hR : ∀ d m, d ≤ 10 → m ≤ n + 1 → gFit R d m) (hk : ∀ σ', gJ σ' → Go κ (mLw hs) R Z 2942 [(0, .ref κ.2.2.2.2.1), (1, .ref (κ.2.1 + 0)), (2, .ref (κ.2.1 + 376)), (3, .ref (κ.2.1 + 390)), (4, .ref (κ.2.1 + 391)), (5, .int (nI i))] [] σ' (n + 1)) : Go κ (mLw hs) R Z 1012 [(0, .ref κ.2.2.2.2.1), (1, .ref (κ.2.1 + 0)), (2, .ref (κ.2.1 + 376)), (3, .ref (κ.2.1 + 390)), (4, .ref (κ.2.1 + 391)), (5, .int (nI i))] [] σ n := by
  obtain ⟨s', c1, c2, c3, c4⟩ := j_follow (κ := κ) (σ := σ) (a1 := (gX κ (i + 1))) (a2 := (gX κ (i + 2))) (a3 := (gX κ (i + 3))) (a4 := (gX κ (i + 4))) (a5 := (gX κ (i + 5))) h
  refine go_aload_n (q := 1013) (gDec (iLw1_3_ok hs) 20 rfl) rfl rfl rfl ?_
  refine go_aload_n (q := 1014) (gDec (iLw1_3_ok hs) 21 rfl) rfl rfl rfl ?_
  refine go_iload (q := 1016) (gDec (iLw1_3_ok hs) 22 rfl) rfl rfl ?_
  refine go_iconst (v := nI 1) (q := 1017) (gDec (iLw1_3_ok hs) 23 rfl) (by decide) rfl ?_
  refine go_iaddN (c := i + 1) (q := 1018) (gDec (iLw1_3_ok hs) 24 rfl) rfl rfl ?_
  refine go_sld (q := 1019) (gDec (iLw1_3_ok hs) 25 rfl) (vp_in_nI (by omega) (by omega)) rfl ?_
  refine go_top (v' := gX κ (i + 1)) (rfl) ?_
  refine go_aload_n (q := 1020) (gDec (iLw1_3_ok hs) 26 rfl) rfl rfl rfl ?_
  refine go_iload (q := 1022) (gDec (iLw1_3_ok hs) 27 rfl) rfl rfl ?_
  refine go_iconst (v := nI 2) (q := 1023) (gDec (iLw1_3_ok hs) 28 rfl) (by decide) rfl ?_
  refine go_iaddN (c := i + 2) (q := 1024) (gDec (iLw1_3_ok hs) 29 rfl) rfl rfl ?_
  refine go_sld (q := 1025) (gDec (iLw1_3_ok hs) 30 rfl) (vp_in_nI (by omega) (by omega)) rfl ?_
  refine go_top (v' := gX κ (i + 2)) (rfl) ?_
  refine go_aload_n (q := 1026) (gDec (iLw1_3_ok hs) 31 rfl) rfl rfl rfl ?_
  refine go_iload (q := 1028) (gDec (iLw1_3_ok hs) 32 rfl) rfl rfl ?_
  refine go_iconst (v := nI 3) (q := 1029) (gDec (iLw1_3_ok hs) 33 rfl) (by decide) rfl ?_
  refine go_iaddN (c := i + 3) (q := 1030) (gDec (iLw1_3_ok hs) 34 rfl) rfl rfl ?_
  refine go_sld (q := 1031) (gDec (iLw1_3_ok hs) 35 rfl) (vp_in_nI (by omega) (by omega)) rfl ?_
  refine go_top (v' := gX κ (i + 3)) (rfl) ?_
  refine go_aload_n (q := 1032) (gDec (iLw1_3_ok hs) 36 rfl) rfl rfl rfl ?_
  refine go_iload (q := 1034) (gDec (iLw1_3_ok hs) 37 rfl) rfl rfl ?_
  refine go_iconst (v := nI 4) (q := 1035) (gDec (iLw1_3_ok hs) 38 rfl) (by decide) rfl ?_
  refine go_iaddN (c := i + 4) (q := 1036) (gDec (iLw1_3_ok hs) 39 rfl) rfl rfl ?_
  refine go_sld (q := 1037) (gDec (iLw1_3_ok hs) 40 rfl) (vp_in_nI (by omega) (by omega)) rfl ?_
  refine go_top (v' := gX κ (i + 4)) (rfl) ?_
  refine go_aload_n (q := 1038) (gDec (iLw1_3_ok hs) 41 rfl) rfl rfl rfl ?_
  refine go_iload (q := 1040) (gDec (iLw1_3_ok hs) 42 rfl) rfl rfl ?_
  refine go_iconst (v := nI 5) (q := 1041) (gDec (iLw1_3_ok hs) 43 rfl) (by decide) rfl ?_
  refine go_iaddN (c := i + 5) (q := 1042) (gDec (iLw1_3_ok hs) 44 rfl) rfl rfl ?_
  refine go_sld (q := 1043) (gDec (iLw1_3_ok hs) 45 rfl) (vp_in_nI (by omega) (by omega)) rfl ?_
  refine go_top (v' := gX κ (i + 5)) (rfl) ?_
  refine go_aload_n (q := 1044) (gDec (iLw1_3_ok hs) 46 rfl) rfl rfl rfl ?_
  refine go_callH (n2 := n + 1) (q := 1047) kL_191 rfl (ctL_follow (κ := κ) (σ := σ) (a1 := (gX κ (i + 1))) (a2 := (gX κ (i + 2))) (a3 := (gX κ (i + 3))) (a4 := (gX κ (i + 4))) (a5 := (gX κ (i + 5))) h) (gDec (iLw1_3_ok hs) 47 rfl) rfl rfl (Nat.le_of_ble_eq_true rfl) rfl (hR _ _ (by decide) (Nat.le_refl _)) rfl ?_
  refine go_istore (q := 1049) (gDec (iLw1_3_ok hs) 48 rfl) (Nat.le_of_ble_eq_true rfl) rfl ?_
  refine go_aload_n (q := 1050) (gDec (iLw1_3_ok hs) 49 rfl) rfl rfl rfl ?_
  refine go_aload_n (q := 1051) (gDec (iLw1_3_ok hs) 50 rfl) rfl rfl rfl ?_
  refine go_iload (q := 1053) (gDec (iLw1_3_ok hs) 51 rfl) rfl rfl ?_
  refine go_iconst (v := nI 1) (q := 1054) (gDec (iLw1_3_ok hs) 52 rfl) (by decide) rfl ?_
  refine go_iaddN (c := i + 1) (q := 1055) (gDec (iLw1_3_ok hs) 53 rfl) rfl rfl ?_
  refine go_sld (q := 1056) (gDec (iLw1_3_ok hs) 54 rfl) (vp_in_nI (by omega) (by omega)) rfl ?_
  refine go_top (v' := gX κ (i + 1)) (rfl) ?_
  refine go_aload_n (q := 1057) (gDec (iLw1_3_ok hs) 55 rfl) rfl rfl rfl ?_
  refine go_iload (q := 1059) (gDec (iLw1_3_ok hs) 56 rfl) rfl rfl ?_
  refine go_iconst (v := nI 2) (q := 1060) (gDec (iLw1_3_ok hs) 57 rfl) (by decide) rfl ?_
  refine go_iaddN (c := i + 2) (q := 1061) (gDec (iLw1_3_ok hs) 58 rfl) rfl rfl ?_
  refine go_sld (q := 1062) (gDec (iLw1_3_ok hs) 59 rfl) (vp_in_nI (by omega) (by omega)) rfl ?_
  refine go_top (v' := gX κ (i + 2)) (rfl) ?_
  refine go_aload_n (q := 1063) (gDec (iLw1_4_ok hs) 0 rfl) rfl rfl rfl ?_
  refine go_iload (q := 1065) (gDec (iLw1_4_ok hs) 1 rfl) rfl rfl ?_
  refine go_iconst (v := nI 3) (q := 1066) (gDec (iLw1_4_ok hs) 2 rfl) (by decide) rfl ?_
  refine go_iaddN (c := i + 3) (q := 1067) (gDec (iLw1_4_ok hs) 3 rfl) rfl rfl ?_
  refine go_sld (q := 1068) (gDec (iLw1_4_ok hs) 4 rfl) (vp_in_nI (by omega) (by omega)) rfl ?_
  refine go_top (v' := gX κ (i + 3)) (rfl) ?_
  refine go_aload_n (q := 1069) (gDec (iLw1_4_ok hs) 5 rfl) rfl rfl rfl ?_
  refine go_iload (q := 1071) (gDec (iLw1_4_ok hs) 6 rfl) rfl rfl ?_
  refine go_iconst (v := nI 4) (q := 1072) (gDec (iLw1_4_ok hs) 7 rfl) (by decide) rfl ?_
  refine go_iaddN (c := i + 4) (q := 1073) (gDec (iLw1_4_ok hs) 8 rfl) rfl rfl ?_
  refine go_sld (q := 1074) (gDec (iLw1_4_ok hs) 9 rfl) (vp_in_nI (by omega) (by omega)) rfl ?_
  refine go_top (v' := gX κ (i + 4)) (rfl) ?_
  refine go_aload_n (q := 1075) (gDec (iLw1_4_ok hs) 10 rfl) rfl rfl rfl ?_
  refine go_iload (q := 1077) (gDec (iLw1_4_ok hs) 11 rfl) rfl rfl ?_
  refine go_iconst (v := nI 5) (q := 1078) (gDec (iLw1_4_ok hs) 12 rfl) (by decide) rfl ?_
  refine go_iaddN (c := i + 5) (q := 1079) (gDec (iLw1_4_ok hs) 13 rfl) rfl rfl ?_
  refine go_sld (q := 1080) (gDec (iLw1_4_ok hs) 14 rfl) (vp_in_nI (by omega) (by omega)) rfl ?_
  refine go_top (v' := gX κ (i + 5)) (rfl) ?_
  refine go_callV (n2 := n + 1) (q := 1083) kL_193 c1 (gDec (iLw1_4_ok hs) 15 rfl) rfl rfl (by decide) rfl rfl rfl (Nat.le_of_ble_eq_true rfl) rfl (hR _ _ (by decide) (Nat.le_refl _)) rfl ?_
  refine go_istore (q := 1085) (gDec (iLw1_4_ok hs) 16 rfl) (Nat.le_of_ble_eq_true rfl) rfl ?_
  refine go_aload_n (q := 1086) (gDec (iLw1_4_ok hs) 17 rfl) rfl rfl rfl ?_
  refine go_callV (n2 := n + 1) (q := 1089) kL_157 (ctX11_thrown (κ := κ) (σ := s')) (gDec (iLw1_4_ok hs) 18 rfl) rfl rfl (by decide) rfl rfl rfl (Nat.le_of_ble_eq_true rfl) rfl (hR _ _ (by decide) (Nat.le_refl _)) rfl ?_
  refine go_top (v' := xC kOAU (fFollow σ (gX κ (i + 1)) (gX κ (i + 2)) (gX κ (i + 3)) (gX κ (i + 4)) (gX κ (i + 5))).1) (c2) ?_
  refine go_iload (q := 1091) (gDec (iLw1_4_ok hs) 19 rfl) rfl rfl ?_
  refine go_icmp_eq (t := 1096) (q := 1094) (gDec (iLw1_4_ok hs) 20 rfl) (by decide) rfl (fun c1091 => ?_) (fun c1091 => False.elim (c1091 rfl))
  refine go_iload (q := 1098) (gDec (iLw1_4_ok hs) 23 rfl) rfl rfl ?_
  refine go_if_ne (t := 1113) (q := 1101) (gDec (iLw1_4_ok hs) 24 rfl) (by decide) rfl (fun c1098 => ?_) (fun c1098 => ?_)
  · refine go_goto (t := 2942) (gDec (iLw1_4_ok hs) 34 rfl) (by decide) ?_
    refine go_sub (L' := [(0, .ref κ.2.2.2.2.1), (1, .ref (κ.2.1 + 0)), (2, .ref (κ.2.1 + 376)), (3, .ref (κ.2.1 + 390)), (4, .ref (κ.2.1 + 391)), (5, .int (nI i))]) ⟨rfl, rfl, rfl, rfl, rfl, rfl, trivial⟩ ?_
    exact hk s' c4
  · obtain ⟨v, he⟩ := (r_follow (σ := σ) (a1 := (gX κ (i + 1))) (a2 := (gX κ (i + 2))) (a3 := (gX κ (i + 3))) (a4 := (gX κ (i + 4))) (a5 := (gX κ (i + 5)))).resolve_right (fun h9 => h9 c1098)
    refine go_aload_n (q := 1102) (gDec (iLw1_4_ok hs) 25 rfl) rfl rfl rfl ?_
    refine go_iconst (v := 0) (q := 1103) (gDec (iLw1_4_ok hs) 26 rfl) (by decide) rfl ?_
    refine go_lald (q := 1104) (gDec (iLw1_4_ok hs) 27 rfl) rfl (by decide) vp_00 rfl ?_
    refine go_iload (q := 1106) (gDec (iLw1_4_ok hs) 28 rfl) rfl rfl ?_
    refine go_i2l (q := 1107) (gDec (iLw1_4_ok hs) 29 rfl) rfl ?_
    refine go_lcmp (q := 1108) (gDec (iLw1_4_ok hs) 30 rfl) rfl ?_
    refine go_top (v' := 0) ((lw_cmp he c3)) ?_
    refine go_if_eq (t := 1113) (q := 1111) (gDec (iLw1_4_ok hs) 31 rfl) (by decide) rfl (fun c1108 => ?_) (fun c1108 => False.elim (c1108 rfl))
    refine go_goto (t := 2942) (gDec (iLw1_4_ok hs) 34 rfl) (by decide) ?_
    refine go_sub (L' := [(0, .ref κ.2.2.2.2.1), (1, .ref (κ.2.1 + 0)), (2, .ref (κ.2.1 + 376)), (3, .ref (κ.2.1 + 390)), (4, .ref (κ.2.1 + 391)), (5, .int (nI i))]) ⟨rfl, rfl, rfl, rfl, rfl, rfl, trivial⟩ ?_
    exact hk s' c4

set_option maxHeartbeats 4000000 in
set_option maxRecDepth 100000 in
theorem lw_c11 {κ : gK} {hs : List (Nat × Nat × Nat × Nat)} {R : Room} {Z : gZ} {σ : gST} {n i : Nat} (h : gJ σ) (hi : i + 6 ≤ κ.2.2.2.2.2.1) (hL : κ.2.2.2.2.2.1 ≤ 3072) (hR : ∀ d m, d ≤ 10 → m ≤ n + 1 → gFit R d m) (hk : ∀ σ', gJ σ' → Go κ (mLw hs) R Z 2942 [(0, .ref κ.2.2.2.2.1), (1, .ref (κ.2.1 + 0)), (2, .ref (κ.2.1 + 376)), (3, .ref (κ.2.1 + 390)), (4, .ref (κ.2.1 + 391)), (5, .int (nI i))] [] σ' (n + 1)) : Go κ (mLw hs) R Z 1116 [(0, .ref κ.2.2.2.2.1), (1, .ref (κ.2.1 + 0)), (2, .ref (κ.2.1 + 376)), (3, .ref (κ.2.1 + 390)), (4, .ref (κ.2.1 + 391)), (5, .int (nI i))] [] σ n := by
  obtain ⟨s', c1, c2, c3, c4⟩ := j_side (κ := κ) (σ := σ) (a1 := (gX κ (i + 1))) (a2 := (gX κ (i + 2))) (a3 := (gX κ (i + 3))) h
  refine go_aload_n (q := 1117) (gDec (iLw1_4_ok hs) 35 rfl) rfl rfl rfl ?_
  refine go_aload_n (q := 1118) (gDec (iLw1_4_ok hs) 36 rfl) rfl rfl rfl ?_
  refine go_iload (q := 1120) (gDec (iLw1_4_ok hs) 37 rfl) rfl rfl ?_
  refine go_iconst (v := nI 1) (q := 1121) (gDec (iLw1_4_ok hs) 38 rfl) (by decide) rfl ?_
  refine go_iaddN (c := i + 1) (q := 1122) (gDec (iLw1_4_ok hs) 39 rfl) rfl rfl ?_
  refine go_sld (q := 1123) (gDec (iLw1_4_ok hs) 40 rfl) (vp_in_nI (by omega) (by omega)) rfl ?_
  refine go_top (v' := gX κ (i + 1)) (rfl) ?_
  refine go_aload_n (q := 1124) (gDec (iLw1_4_ok hs) 41 rfl) rfl rfl rfl ?_
  refine go_iload (q := 1126) (gDec (iLw1_4_ok hs) 42 rfl) rfl rfl ?_
  refine go_iconst (v := nI 2) (q := 1127) (gDec (iLw1_4_ok hs) 43 rfl) (by decide) rfl ?_
  refine go_iaddN (c := i + 2) (q := 1128) (gDec (iLw1_4_ok hs) 44 rfl) rfl rfl ?_
  refine go_sld (q := 1129) (gDec (iLw1_4_ok hs) 45 rfl) (vp_in_nI (by omega) (by omega)) rfl ?_
  refine go_top (v' := gX κ (i + 2)) (rfl) ?_
  refine go_aload_n (q := 1130) (gDec (iLw1_4_ok hs) 46 rfl) rfl rfl rfl ?_
  refine go_iload (q := 1132) (gDec (iLw1_4_ok hs) 47 rfl) rfl rfl ?_
  refine go_iconst (v := nI 3) (q := 1133) (gDec (iLw1_4_ok hs) 48 rfl) (by decide) rfl ?_
  refine go_iaddN (c := i + 3) (q := 1134) (gDec (iLw1_4_ok hs) 49 rfl) rfl rfl ?_
  refine go_sld (q := 1135) (gDec (iLw1_4_ok hs) 50 rfl) (vp_in_nI (by omega) (by omega)) rfl ?_
  refine go_top (v' := gX κ (i + 3)) (rfl) ?_
  refine go_aload_n (q := 1136) (gDec (iLw1_4_ok hs) 51 rfl) rfl rfl rfl ?_
  refine go_callH (n2 := n + 1) (q := 1139) kL_194 rfl (ctL_side (κ := κ) (σ := σ) (a1 := (gX κ (i + 1))) (a2 := (gX κ (i + 2))) (a3 := (gX κ (i + 3))) h) (gDec (iLw1_4_ok hs) 52 rfl) rfl rfl (Nat.le_of_ble_eq_true rfl) rfl (hR _ _ (by decide) (Nat.le_refl _)) rfl ?_
  refine go_istore (q := 1141) (gDec (iLw1_4_ok hs) 53 rfl) (Nat.le_of_ble_eq_true rfl) rfl ?_
  refine go_aload_n (q := 1142) (gDec (iLw1_4_ok hs) 54 rfl) rfl rfl rfl ?_
  refine go_aload_n (q := 1143) (gDec (iLw1_4_ok hs) 55 rfl) rfl rfl rfl ?_
  refine go_iload (q := 1145) (gDec (iLw1_4_ok hs) 56 rfl) rfl rfl ?_
  refine go_iconst (v := nI 1) (q := 1146) (gDec (iLw1_4_ok hs) 57 rfl) (by decide) rfl ?_
  refine go_iaddN (c := i + 1) (q := 1147) (gDec (iLw1_4_ok hs) 58 rfl) rfl rfl ?_
  refine go_sld (q := 1148) (gDec (iLw1_4_ok hs) 59 rfl) (vp_in_nI (by omega) (by omega)) rfl ?_
  refine go_top (v' := gX κ (i + 1)) (rfl) ?_
  refine go_aload_n (q := 1149) (gDec (iLw1_5_ok hs) 0 rfl) rfl rfl rfl ?_
  refine go_iload (q := 1151) (gDec (iLw1_5_ok hs) 1 rfl) rfl rfl ?_
  refine go_iconst (v := nI 2) (q := 1152) (gDec (iLw1_5_ok hs) 2 rfl) (by decide) rfl ?_
  refine go_iaddN (c := i + 2) (q := 1153) (gDec (iLw1_5_ok hs) 3 rfl) rfl rfl ?_
  refine go_sld (q := 1154) (gDec (iLw1_5_ok hs) 4 rfl) (vp_in_nI (by omega) (by omega)) rfl ?_
  refine go_top (v' := gX κ (i + 2)) (rfl) ?_
  refine go_aload_n (q := 1155) (gDec (iLw1_5_ok hs) 5 rfl) rfl rfl rfl ?_
  refine go_iload (q := 1157) (gDec (iLw1_5_ok hs) 6 rfl) rfl rfl ?_
  refine go_iconst (v := nI 3) (q := 1158) (gDec (iLw1_5_ok hs) 7 rfl) (by decide) rfl ?_
  refine go_iaddN (c := i + 3) (q := 1159) (gDec (iLw1_5_ok hs) 8 rfl) rfl rfl ?_
  refine go_sld (q := 1160) (gDec (iLw1_5_ok hs) 9 rfl) (vp_in_nI (by omega) (by omega)) rfl ?_
  refine go_top (v' := gX κ (i + 3)) (rfl) ?_
  refine go_callV (n2 := n + 1) (q := 1163) kL_196 c1 (gDec (iLw1_5_ok hs) 10 rfl) rfl rfl (by decide) rfl rfl rfl (Nat.le_of_ble_eq_true rfl) rfl (hR _ _ (by decide) (Nat.le_refl _)) rfl ?_
  refine go_istore (q := 1165) (gDec (iLw1_5_ok hs) 11 rfl) (Nat.le_of_ble_eq_true rfl) rfl ?_
  refine go_aload_n (q := 1166) (gDec (iLw1_5_ok hs) 12 rfl) rfl rfl rfl ?_
  refine go_callV (n2 := n + 1) (q := 1169) kL_157 (ctX11_thrown (κ := κ) (σ := s')) (gDec (iLw1_5_ok hs) 13 rfl) rfl rfl (by decide) rfl rfl rfl (Nat.le_of_ble_eq_true rfl) rfl (hR _ _ (by decide) (Nat.le_refl _)) rfl ?_
  refine go_top (v' := xC kOA (fSide σ (gX κ (i + 1)) (gX κ (i + 2)) (gX κ (i + 3))).1) (c2) ?_
  refine go_iload (q := 1171) (gDec (iLw1_5_ok hs) 14 rfl) rfl rfl ?_
  refine go_icmp_eq (t := 1176) (q := 1174) (gDec (iLw1_5_ok hs) 15 rfl) (by decide) rfl (fun c1171 => ?_) (fun c1171 => False.elim (c1171 rfl))
  refine go_iload (q := 1178) (gDec (iLw1_5_ok hs) 18 rfl) rfl rfl ?_
  refine go_if_ne (t := 1193) (q := 1181) (gDec (iLw1_5_ok hs) 19 rfl) (by decide) rfl (fun c1178 => ?_) (fun c1178 => ?_)
  · refine go_goto (t := 2942) (gDec (iLw1_5_ok hs) 29 rfl) (by decide) ?_
    refine go_sub (L' := [(0, .ref κ.2.2.2.2.1), (1, .ref (κ.2.1 + 0)), (2, .ref (κ.2.1 + 376)), (3, .ref (κ.2.1 + 390)), (4, .ref (κ.2.1 + 391)), (5, .int (nI i))]) ⟨rfl, rfl, rfl, rfl, rfl, rfl, trivial⟩ ?_
    exact hk s' c4
  · obtain ⟨v, he⟩ := (r_side (σ := σ) (a1 := (gX κ (i + 1))) (a2 := (gX κ (i + 2))) (a3 := (gX κ (i + 3)))).resolve_right (fun h9 => h9 c1178)
    refine go_aload_n (q := 1182) (gDec (iLw1_5_ok hs) 20 rfl) rfl rfl rfl ?_
    refine go_iconst (v := 0) (q := 1183) (gDec (iLw1_5_ok hs) 21 rfl) (by decide) rfl ?_
    refine go_lald (q := 1184) (gDec (iLw1_5_ok hs) 22 rfl) rfl (by decide) vp_00 rfl ?_
    refine go_iload (q := 1186) (gDec (iLw1_5_ok hs) 23 rfl) rfl rfl ?_
    refine go_i2l (q := 1187) (gDec (iLw1_5_ok hs) 24 rfl) rfl ?_
    refine go_lcmp (q := 1188) (gDec (iLw1_5_ok hs) 25 rfl) rfl ?_
    refine go_top (v' := 0) ((lw_cmp he c3)) ?_
    refine go_if_eq (t := 1193) (q := 1191) (gDec (iLw1_5_ok hs) 26 rfl) (by decide) rfl (fun c1188 => ?_) (fun c1188 => False.elim (c1188 rfl))
    refine go_goto (t := 2942) (gDec (iLw1_5_ok hs) 29 rfl) (by decide) ?_
    refine go_sub (L' := [(0, .ref κ.2.2.2.2.1), (1, .ref (κ.2.1 + 0)), (2, .ref (κ.2.1 + 376)), (3, .ref (κ.2.1 + 390)), (4, .ref (κ.2.1 + 391)), (5, .int (nI i))]) ⟨rfl, rfl, rfl, rfl, rfl, rfl, trivial⟩ ?_
    exact hk s' c4

set_option maxHeartbeats 4000000 in
set_option maxRecDepth 100000 in
theorem lw_c12 {κ : gK} {hs : List (Nat × Nat × Nat × Nat)} {R : Room} {Z : gZ} {σ : gST} {n i : Nat} (h : gJ σ) (hi : i + 6 ≤ κ.2.2.2.2.2.1) (hL : κ.2.2.2.2.2.1 ≤ 3072) (hR : ∀ d m, d ≤ 10 → m ≤ n + 1 → gFit R d m) (hk : ∀ σ', gJ σ' → Go κ (mLw hs) R Z 2942 [(0, .ref κ.2.2.2.2.1), (1, .ref (κ.2.1 + 0)), (2, .ref (κ.2.1 + 376)), (3, .ref (κ.2.1 + 390)), (4, .ref (κ.2.1 + 391)), (5, .int (nI i))] [] σ' (n + 1)) : Go κ (mLw hs) R Z 1196 [(0, .ref κ.2.2.2.2.1), (1, .ref (κ.2.1 + 0)), (2, .ref (κ.2.1 + 376)), (3, .ref (κ.2.1 + 390)), (4, .ref (κ.2.1 + 391)), (5, .int (nI i))] [] σ n := by
  obtain ⟨s', c1, c2, c3, c4⟩ := j_followers (κ := κ) (σ := σ) (a1 := (gX κ (i + 1))) (a2 := (gX κ (i + 2))) h
  refine go_aload_n (q := 1197) (gDec (iLw1_5_ok hs) 30 rfl) rfl rfl rfl ?_
  refine go_aload_n (q := 1198) (gDec (iLw1_5_ok hs) 31 rfl) rfl rfl rfl ?_
  refine go_iload (q := 1200) (gDec (iLw1_5_ok hs) 32 rfl) rfl rfl ?_
  refine go_iconst (v := nI 1) (q := 1201) (gDec (iLw1_5_ok hs) 33 rfl) (by decide) rfl ?_
  refine go_iaddN (c := i + 1) (q := 1202) (gDec (iLw1_5_ok hs) 34 rfl) rfl rfl ?_
  refine go_sld (q := 1203) (gDec (iLw1_5_ok hs) 35 rfl) (vp_in_nI (by omega) (by omega)) rfl ?_
  refine go_top (v' := gX κ (i + 1)) (rfl) ?_
  refine go_aload_n (q := 1204) (gDec (iLw1_5_ok hs) 36 rfl) rfl rfl rfl ?_
  refine go_iload (q := 1206) (gDec (iLw1_5_ok hs) 37 rfl) rfl rfl ?_
  refine go_iconst (v := nI 2) (q := 1207) (gDec (iLw1_5_ok hs) 38 rfl) (by decide) rfl ?_
  refine go_iaddN (c := i + 2) (q := 1208) (gDec (iLw1_5_ok hs) 39 rfl) rfl rfl ?_
  refine go_sld (q := 1209) (gDec (iLw1_5_ok hs) 40 rfl) (vp_in_nI (by omega) (by omega)) rfl ?_
  refine go_top (v' := gX κ (i + 2)) (rfl) ?_
  refine go_aload_n (q := 1210) (gDec (iLw1_5_ok hs) 41 rfl) rfl rfl rfl ?_
  refine go_callH (n2 := n + 1) (q := 1213) kL_197 rfl (ctL_followers (κ := κ) (σ := σ) (a1 := (gX κ (i + 1))) (a2 := (gX κ (i + 2))) h) (gDec (iLw1_5_ok hs) 42 rfl) rfl rfl (Nat.le_of_ble_eq_true rfl) rfl (hR _ _ (by decide) (Nat.le_refl _)) rfl ?_
  refine go_istore (q := 1215) (gDec (iLw1_5_ok hs) 43 rfl) (Nat.le_of_ble_eq_true rfl) rfl ?_
  refine go_aload_n (q := 1216) (gDec (iLw1_5_ok hs) 44 rfl) rfl rfl rfl ?_
  refine go_aload_n (q := 1217) (gDec (iLw1_5_ok hs) 45 rfl) rfl rfl rfl ?_
  refine go_iload (q := 1219) (gDec (iLw1_5_ok hs) 46 rfl) rfl rfl ?_
  refine go_iconst (v := nI 1) (q := 1220) (gDec (iLw1_5_ok hs) 47 rfl) (by decide) rfl ?_
  refine go_iaddN (c := i + 1) (q := 1221) (gDec (iLw1_5_ok hs) 48 rfl) rfl rfl ?_
  refine go_sld (q := 1222) (gDec (iLw1_5_ok hs) 49 rfl) (vp_in_nI (by omega) (by omega)) rfl ?_
  refine go_top (v' := gX κ (i + 1)) (rfl) ?_
  refine go_aload_n (q := 1223) (gDec (iLw1_5_ok hs) 50 rfl) rfl rfl rfl ?_
  refine go_iload (q := 1225) (gDec (iLw1_5_ok hs) 51 rfl) rfl rfl ?_
  refine go_iconst (v := nI 2) (q := 1226) (gDec (iLw1_5_ok hs) 52 rfl) (by decide) rfl ?_
  refine go_iaddN (c := i + 2) (q := 1227) (gDec (iLw1_5_ok hs) 53 rfl) rfl rfl ?_
  refine go_sld (q := 1228) (gDec (iLw1_5_ok hs) 54 rfl) (vp_in_nI (by omega) (by omega)) rfl ?_
  refine go_top (v' := gX κ (i + 2)) (rfl) ?_
  refine go_callV (n2 := n + 1) (q := 1231) kL_199 c1 (gDec (iLw1_5_ok hs) 55 rfl) rfl rfl (by decide) rfl rfl rfl (Nat.le_of_ble_eq_true rfl) rfl (hR _ _ (by decide) (Nat.le_refl _)) rfl ?_
  refine go_istore (q := 1233) (gDec (iLw1_5_ok hs) 56 rfl) (Nat.le_of_ble_eq_true rfl) rfl ?_
  refine go_aload_n (q := 1234) (gDec (iLw1_5_ok hs) 57 rfl) rfl rfl rfl ?_
  refine go_callV (n2 := n + 1) (q := 1237) kL_157 (ctX11_thrown (κ := κ) (σ := s')) (gDec (iLw1_5_ok hs) 58 rfl) rfl rfl (by decide) rfl rfl rfl (Nat.le_of_ble_eq_true rfl) rfl (hR _ _ (by decide) (Nat.le_refl _)) rfl ?_
  refine go_top (v' := xC kO (fFollowers σ (gX κ (i + 1)) (gX κ (i + 2))).1) (c2) ?_
  refine go_iload (q := 1239) (gDec (iLw1_5_ok hs) 59 rfl) rfl rfl ?_
  refine go_icmp_eq (t := 1244) (q := 1242) (gDec (iLw1_6_ok hs) 0 rfl) (by decide) rfl (fun c1239 => ?_) (fun c1239 => False.elim (c1239 rfl))
  refine go_iload (q := 1246) (gDec (iLw1_6_ok hs) 3 rfl) rfl rfl ?_
  refine go_if_ne (t := 1261) (q := 1249) (gDec (iLw1_6_ok hs) 4 rfl) (by decide) rfl (fun c1246 => ?_) (fun c1246 => ?_)
  · refine go_goto (t := 2942) (gDec (iLw2_0_ok hs) 8 rfl) (by decide) ?_
    refine go_sub (L' := [(0, .ref κ.2.2.2.2.1), (1, .ref (κ.2.1 + 0)), (2, .ref (κ.2.1 + 376)), (3, .ref (κ.2.1 + 390)), (4, .ref (κ.2.1 + 391)), (5, .int (nI i))]) ⟨rfl, rfl, rfl, rfl, rfl, rfl, trivial⟩ ?_
    exact hk s' c4
  · obtain ⟨v, he⟩ := (r_followers (σ := σ) (a1 := (gX κ (i + 1))) (a2 := (gX κ (i + 2)))).resolve_right (fun h9 => h9 c1246)
    refine go_aload_n (q := 1250) (gDec (iLw1_6_ok hs) 5 rfl) rfl rfl rfl ?_
    refine go_iconst (v := 0) (q := 1251) (gDec (iLw2_0_ok hs) 0 rfl) (by decide) rfl ?_
    refine go_lald (q := 1252) (gDec (iLw2_0_ok hs) 1 rfl) rfl (by decide) vp_00 rfl ?_
    refine go_iload (q := 1254) (gDec (iLw2_0_ok hs) 2 rfl) rfl rfl ?_
    refine go_i2l (q := 1255) (gDec (iLw2_0_ok hs) 3 rfl) rfl ?_
    refine go_lcmp (q := 1256) (gDec (iLw2_0_ok hs) 4 rfl) rfl ?_
    refine go_top (v' := 0) ((lw_cmp he c3)) ?_
    refine go_if_eq (t := 1261) (q := 1259) (gDec (iLw2_0_ok hs) 5 rfl) (by decide) rfl (fun c1256 => ?_) (fun c1256 => False.elim (c1256 rfl))
    refine go_goto (t := 2942) (gDec (iLw2_0_ok hs) 8 rfl) (by decide) ?_
    refine go_sub (L' := [(0, .ref κ.2.2.2.2.1), (1, .ref (κ.2.1 + 0)), (2, .ref (κ.2.1 + 376)), (3, .ref (κ.2.1 + 390)), (4, .ref (κ.2.1 + 391)), (5, .int (nI i))]) ⟨rfl, rfl, rfl, rfl, rfl, rfl, trivial⟩ ?_
    exact hk s' c4

set_option maxHeartbeats 4000000 in
set_option maxRecDepth 100000 in
theorem lw_c13 {κ : gK} {hs : List (Nat × Nat × Nat × Nat)} {R : Room} {Z : gZ} {σ : gST} {n i : Nat} (h : gJ σ) (hi : i + 6 ≤ κ.2.2.2.2.2.1) (hL : κ.2.2.2.2.2.1 ≤ 3072) (hR : ∀ d m, d ≤ 10 → m ≤ n + 1 → gFit R d m) (hk : ∀ σ', gJ σ' → Go κ (mLw hs) R Z 2942 [(0, .ref κ.2.2.2.2.1), (1, .ref (κ.2.1 + 0)), (2, .ref (κ.2.1 + 376)), (3, .ref (κ.2.1 + 390)), (4, .ref (κ.2.1 + 391)), (5, .int (nI i))] [] σ' (n + 1)) : Go κ (mLw hs) R Z 1264 [(0, .ref κ.2.2.2.2.1), (1, .ref (κ.2.1 + 0)), (2, .ref (κ.2.1 + 376)), (3, .ref (κ.2.1 + 390)), (4, .ref (κ.2.1 + 391)), (5, .int (nI i))] [] σ n := by
  by_cases hb : gX κ (i + 2) = 0
  · obtain ⟨s', c1, c2, c3, c4⟩ := j_setClass (κ := κ) (σ := σ) (a1 := (gX κ (i + 1))) (a2 := 0) (a3 := (gX κ (i + 3))) (hb := g01_0) h
    refine go_aload_n (q := 1265) (gDec (iLw2_0_ok hs) 9 rfl) rfl rfl rfl ?_
    refine go_aload_n (q := 1266) (gDec (iLw2_0_ok hs) 10 rfl) rfl rfl rfl ?_
    refine go_iload (q := 1268) (gDec (iLw2_0_ok hs) 11 rfl) rfl rfl ?_
    refine go_iconst (v := nI 1) (q := 1269) (gDec (iLw2_0_ok hs) 12 rfl) (by decide) rfl ?_
    refine go_iaddN (c := i + 1) (q := 1270) (gDec (iLw2_0_ok hs) 13 rfl) rfl rfl ?_
    refine go_sld (q := 1271) (gDec (iLw2_0_ok hs) 14 rfl) (vp_in_nI (by omega) (by omega)) rfl ?_
    refine go_top (v' := gX κ (i + 1)) (rfl) ?_
    refine go_aload_n (q := 1272) (gDec (iLw2_0_ok hs) 15 rfl) rfl rfl rfl ?_
    refine go_iload (q := 1274) (gDec (iLw2_0_ok hs) 16 rfl) rfl rfl ?_
    refine go_iconst (v := nI 2) (q := 1275) (gDec (iLw2_0_ok hs) 17 rfl) (by decide) rfl ?_
    refine go_iaddN (c := i + 2) (q := 1276) (gDec (iLw2_0_ok hs) 18 rfl) rfl rfl ?_
    refine go_sld (q := 1277) (gDec (iLw2_0_ok hs) 19 rfl) (vp_in_nI (by omega) (by omega)) rfl ?_
    refine go_top (v' := gX κ (i + 2)) (rfl) ?_
    refine go_if_eq (t := 1284) (q := 1280) (gDec (iLw2_0_ok hs) 20 rfl) (by decide) rfl (fun c1277 => ?_) (fun c1277 => False.elim (c1277 hb))
    refine go_iconst (v := 0) (q := 1285) (gDec (iLw2_0_ok hs) 23 rfl) (by decide) rfl ?_
    refine go_aload_n (q := 1286) (gDec (iLw2_0_ok hs) 24 rfl) rfl rfl rfl ?_
    refine go_iload (q := 1288) (gDec (iLw2_0_ok hs) 25 rfl) rfl rfl ?_
    refine go_iconst (v := nI 3) (q := 1289) (gDec (iLw2_0_ok hs) 26 rfl) (by decide) rfl ?_
    refine go_iaddN (c := i + 3) (q := 1290) (gDec (iLw2_0_ok hs) 27 rfl) rfl rfl ?_
    refine go_sld (q := 1291) (gDec (iLw2_0_ok hs) 28 rfl) (vp_in_nI (by omega) (by omega)) rfl ?_
    refine go_top (v' := gX κ (i + 3)) (rfl) ?_
    refine go_aload_n (q := 1292) (gDec (iLw2_0_ok hs) 29 rfl) rfl rfl rfl ?_
    refine go_callH (n2 := n + 1) (q := 1295) kL_200 rfl (ctL_setClass (κ := κ) (σ := σ) (a1 := (gX κ (i + 1))) (a2 := 0) (a3 := (gX κ (i + 3))) (hb := g01_0) h) (gDec (iLw2_0_ok hs) 30 rfl) rfl rfl (Nat.le_of_ble_eq_true rfl) rfl (hR _ _ (by decide) (Nat.le_refl _)) rfl ?_
    refine go_istore (q := 1297) (gDec (iLw2_0_ok hs) 31 rfl) (Nat.le_of_ble_eq_true rfl) rfl ?_
    refine go_aload_n (q := 1298) (gDec (iLw2_0_ok hs) 32 rfl) rfl rfl rfl ?_
    refine go_aload_n (q := 1299) (gDec (iLw2_0_ok hs) 33 rfl) rfl rfl rfl ?_
    refine go_iload (q := 1301) (gDec (iLw2_0_ok hs) 34 rfl) rfl rfl ?_
    refine go_iconst (v := nI 1) (q := 1302) (gDec (iLw2_0_ok hs) 35 rfl) (by decide) rfl ?_
    refine go_iaddN (c := i + 1) (q := 1303) (gDec (iLw2_0_ok hs) 36 rfl) rfl rfl ?_
    refine go_sld (q := 1304) (gDec (iLw2_0_ok hs) 37 rfl) (vp_in_nI (by omega) (by omega)) rfl ?_
    refine go_top (v' := gX κ (i + 1)) (rfl) ?_
    refine go_aload_n (q := 1305) (gDec (iLw2_0_ok hs) 38 rfl) rfl rfl rfl ?_
    refine go_iload (q := 1307) (gDec (iLw2_0_ok hs) 39 rfl) rfl rfl ?_
    refine go_iconst (v := nI 2) (q := 1308) (gDec (iLw2_0_ok hs) 40 rfl) (by decide) rfl ?_
    refine go_iaddN (c := i + 2) (q := 1309) (gDec (iLw2_0_ok hs) 41 rfl) rfl rfl ?_
    refine go_sld (q := 1310) (gDec (iLw2_0_ok hs) 42 rfl) (vp_in_nI (by omega) (by omega)) rfl ?_
    refine go_top (v' := gX κ (i + 2)) (rfl) ?_
    refine go_if_eq (t := 1317) (q := 1313) (gDec (iLw2_0_ok hs) 43 rfl) (by decide) rfl (fun c1310 => ?_) (fun c1310 => False.elim (c1310 hb))
    refine go_iconst (v := 0) (q := 1318) (gDec (iLw2_0_ok hs) 46 rfl) (by decide) rfl ?_
    refine go_aload_n (q := 1319) (gDec (iLw2_0_ok hs) 47 rfl) rfl rfl rfl ?_
    refine go_iload (q := 1321) (gDec (iLw2_0_ok hs) 48 rfl) rfl rfl ?_
    refine go_iconst (v := nI 3) (q := 1322) (gDec (iLw2_0_ok hs) 49 rfl) (by decide) rfl ?_
    refine go_iaddN (c := i + 3) (q := 1323) (gDec (iLw2_0_ok hs) 50 rfl) rfl rfl ?_
    refine go_sld (q := 1324) (gDec (iLw2_0_ok hs) 51 rfl) (vp_in_nI (by omega) (by omega)) rfl ?_
    refine go_top (v' := gX κ (i + 3)) (rfl) ?_
    refine go_callV (n2 := n + 1) (q := 1327) kL_203 c1 (gDec (iLw2_0_ok hs) 52 rfl) rfl rfl (by decide) rfl rfl rfl (Nat.le_of_ble_eq_true rfl) rfl (hR _ _ (by decide) (Nat.le_refl _)) rfl ?_
    refine go_istore (q := 1329) (gDec (iLw2_0_ok hs) 53 rfl) (Nat.le_of_ble_eq_true rfl) rfl ?_
    refine go_aload_n (q := 1330) (gDec (iLw2_0_ok hs) 54 rfl) rfl rfl rfl ?_
    refine go_callV (n2 := n + 1) (q := 1333) kL_157 (ctX11_thrown (κ := κ) (σ := s')) (gDec (iLw2_0_ok hs) 55 rfl) rfl rfl (by decide) rfl rfl rfl (Nat.le_of_ble_eq_true rfl) rfl (hR _ _ (by decide) (Nat.le_refl _)) rfl ?_
    refine go_top (v' := xC kOA (fSetClass σ (gX κ (i + 1)) 0 (gX κ (i + 3))).1) (c2) ?_
    refine go_iload (q := 1335) (gDec (iLw2_0_ok hs) 56 rfl) rfl rfl ?_
    refine go_icmp_eq (t := 1340) (q := 1338) (gDec (iLw2_0_ok hs) 57 rfl) (by decide) rfl (fun c1335 => ?_) (fun c1335 => False.elim (c1335 rfl))
    refine go_iload (q := 1342) (gDec (iLw2_1_ok hs) 0 rfl) rfl rfl ?_
    refine go_if_ne (t := 1357) (q := 1345) (gDec (iLw2_1_ok hs) 1 rfl) (by decide) rfl (fun c1342 => ?_) (fun c1342 => ?_)
    · refine go_goto (t := 2942) (gDec (iLw2_1_ok hs) 11 rfl) (by decide) ?_
      refine go_sub (L' := [(0, .ref κ.2.2.2.2.1), (1, .ref (κ.2.1 + 0)), (2, .ref (κ.2.1 + 376)), (3, .ref (κ.2.1 + 390)), (4, .ref (κ.2.1 + 391)), (5, .int (nI i))]) ⟨rfl, rfl, rfl, rfl, rfl, rfl, trivial⟩ ?_
      exact hk s' c4
    · obtain ⟨v, he⟩ := (r_setClass (σ := σ) (a1 := (gX κ (i + 1))) (a2 := 0) (a3 := (gX κ (i + 3)))).resolve_right (fun h9 => h9 c1342)
      refine go_aload_n (q := 1346) (gDec (iLw2_1_ok hs) 2 rfl) rfl rfl rfl ?_
      refine go_iconst (v := 0) (q := 1347) (gDec (iLw2_1_ok hs) 3 rfl) (by decide) rfl ?_
      refine go_lald (q := 1348) (gDec (iLw2_1_ok hs) 4 rfl) rfl (by decide) vp_00 rfl ?_
      refine go_iload (q := 1350) (gDec (iLw2_1_ok hs) 5 rfl) rfl rfl ?_
      refine go_i2l (q := 1351) (gDec (iLw2_1_ok hs) 6 rfl) rfl ?_
      refine go_lcmp (q := 1352) (gDec (iLw2_1_ok hs) 7 rfl) rfl ?_
      refine go_top (v' := 0) ((lw_cmp he c3)) ?_
      refine go_if_eq (t := 1357) (q := 1355) (gDec (iLw2_1_ok hs) 8 rfl) (by decide) rfl (fun c1352 => ?_) (fun c1352 => False.elim (c1352 rfl))
      refine go_goto (t := 2942) (gDec (iLw2_1_ok hs) 11 rfl) (by decide) ?_
      refine go_sub (L' := [(0, .ref κ.2.2.2.2.1), (1, .ref (κ.2.1 + 0)), (2, .ref (κ.2.1 + 376)), (3, .ref (κ.2.1 + 390)), (4, .ref (κ.2.1 + 391)), (5, .int (nI i))]) ⟨rfl, rfl, rfl, rfl, rfl, rfl, trivial⟩ ?_
      exact hk s' c4
  · obtain ⟨s', c1, c2, c3, c4⟩ := j_setClass (κ := κ) (σ := σ) (a1 := (gX κ (i + 1))) (a2 := 1) (a3 := (gX κ (i + 3))) (hb := g01_1) h
    refine go_aload_n (q := 1265) (gDec (iLw2_0_ok hs) 9 rfl) rfl rfl rfl ?_
    refine go_aload_n (q := 1266) (gDec (iLw2_0_ok hs) 10 rfl) rfl rfl rfl ?_
    refine go_iload (q := 1268) (gDec (iLw2_0_ok hs) 11 rfl) rfl rfl ?_
    refine go_iconst (v := nI 1) (q := 1269) (gDec (iLw2_0_ok hs) 12 rfl) (by decide) rfl ?_
    refine go_iaddN (c := i + 1) (q := 1270) (gDec (iLw2_0_ok hs) 13 rfl) rfl rfl ?_
    refine go_sld (q := 1271) (gDec (iLw2_0_ok hs) 14 rfl) (vp_in_nI (by omega) (by omega)) rfl ?_
    refine go_top (v' := gX κ (i + 1)) (rfl) ?_
    refine go_aload_n (q := 1272) (gDec (iLw2_0_ok hs) 15 rfl) rfl rfl rfl ?_
    refine go_iload (q := 1274) (gDec (iLw2_0_ok hs) 16 rfl) rfl rfl ?_
    refine go_iconst (v := nI 2) (q := 1275) (gDec (iLw2_0_ok hs) 17 rfl) (by decide) rfl ?_
    refine go_iaddN (c := i + 2) (q := 1276) (gDec (iLw2_0_ok hs) 18 rfl) rfl rfl ?_
    refine go_sld (q := 1277) (gDec (iLw2_0_ok hs) 19 rfl) (vp_in_nI (by omega) (by omega)) rfl ?_
    refine go_top (v' := gX κ (i + 2)) (rfl) ?_
    refine go_if_eq (t := 1284) (q := 1280) (gDec (iLw2_0_ok hs) 20 rfl) (by decide) rfl (fun c1277 => False.elim (hb c1277)) (fun c1277 => ?_)
    refine go_iconst (v := 1) (q := 1281) (gDec (iLw2_0_ok hs) 21 rfl) (by decide) rfl ?_
    refine go_goto (t := 1285) (gDec (iLw2_0_ok hs) 22 rfl) (by decide) ?_
    refine go_aload_n (q := 1286) (gDec (iLw2_0_ok hs) 24 rfl) rfl rfl rfl ?_
    refine go_iload (q := 1288) (gDec (iLw2_0_ok hs) 25 rfl) rfl rfl ?_
    refine go_iconst (v := nI 3) (q := 1289) (gDec (iLw2_0_ok hs) 26 rfl) (by decide) rfl ?_
    refine go_iaddN (c := i + 3) (q := 1290) (gDec (iLw2_0_ok hs) 27 rfl) rfl rfl ?_
    refine go_sld (q := 1291) (gDec (iLw2_0_ok hs) 28 rfl) (vp_in_nI (by omega) (by omega)) rfl ?_
    refine go_top (v' := gX κ (i + 3)) (rfl) ?_
    refine go_aload_n (q := 1292) (gDec (iLw2_0_ok hs) 29 rfl) rfl rfl rfl ?_
    refine go_callH (n2 := n + 1) (q := 1295) kL_200 rfl (ctL_setClass (κ := κ) (σ := σ) (a1 := (gX κ (i + 1))) (a2 := 1) (a3 := (gX κ (i + 3))) (hb := g01_1) h) (gDec (iLw2_0_ok hs) 30 rfl) rfl rfl (Nat.le_of_ble_eq_true rfl) rfl (hR _ _ (by decide) (Nat.le_refl _)) rfl ?_
    refine go_istore (q := 1297) (gDec (iLw2_0_ok hs) 31 rfl) (Nat.le_of_ble_eq_true rfl) rfl ?_
    refine go_aload_n (q := 1298) (gDec (iLw2_0_ok hs) 32 rfl) rfl rfl rfl ?_
    refine go_aload_n (q := 1299) (gDec (iLw2_0_ok hs) 33 rfl) rfl rfl rfl ?_
    refine go_iload (q := 1301) (gDec (iLw2_0_ok hs) 34 rfl) rfl rfl ?_
    refine go_iconst (v := nI 1) (q := 1302) (gDec (iLw2_0_ok hs) 35 rfl) (by decide) rfl ?_
    refine go_iaddN (c := i + 1) (q := 1303) (gDec (iLw2_0_ok hs) 36 rfl) rfl rfl ?_
    refine go_sld (q := 1304) (gDec (iLw2_0_ok hs) 37 rfl) (vp_in_nI (by omega) (by omega)) rfl ?_
    refine go_top (v' := gX κ (i + 1)) (rfl) ?_
    refine go_aload_n (q := 1305) (gDec (iLw2_0_ok hs) 38 rfl) rfl rfl rfl ?_
    refine go_iload (q := 1307) (gDec (iLw2_0_ok hs) 39 rfl) rfl rfl ?_
    refine go_iconst (v := nI 2) (q := 1308) (gDec (iLw2_0_ok hs) 40 rfl) (by decide) rfl ?_
    refine go_iaddN (c := i + 2) (q := 1309) (gDec (iLw2_0_ok hs) 41 rfl) rfl rfl ?_
    refine go_sld (q := 1310) (gDec (iLw2_0_ok hs) 42 rfl) (vp_in_nI (by omega) (by omega)) rfl ?_
    refine go_top (v' := gX κ (i + 2)) (rfl) ?_
    refine go_if_eq (t := 1317) (q := 1313) (gDec (iLw2_0_ok hs) 43 rfl) (by decide) rfl (fun c1310 => False.elim (hb c1310)) (fun c1310 => ?_)
    refine go_iconst (v := 1) (q := 1314) (gDec (iLw2_0_ok hs) 44 rfl) (by decide) rfl ?_
    refine go_goto (t := 1318) (gDec (iLw2_0_ok hs) 45 rfl) (by decide) ?_
    refine go_aload_n (q := 1319) (gDec (iLw2_0_ok hs) 47 rfl) rfl rfl rfl ?_
    refine go_iload (q := 1321) (gDec (iLw2_0_ok hs) 48 rfl) rfl rfl ?_
    refine go_iconst (v := nI 3) (q := 1322) (gDec (iLw2_0_ok hs) 49 rfl) (by decide) rfl ?_
    refine go_iaddN (c := i + 3) (q := 1323) (gDec (iLw2_0_ok hs) 50 rfl) rfl rfl ?_
    refine go_sld (q := 1324) (gDec (iLw2_0_ok hs) 51 rfl) (vp_in_nI (by omega) (by omega)) rfl ?_
    refine go_top (v' := gX κ (i + 3)) (rfl) ?_
    refine go_callV (n2 := n + 1) (q := 1327) kL_203 c1 (gDec (iLw2_0_ok hs) 52 rfl) rfl rfl (by decide) rfl rfl rfl (Nat.le_of_ble_eq_true rfl) rfl (hR _ _ (by decide) (Nat.le_refl _)) rfl ?_
    refine go_istore (q := 1329) (gDec (iLw2_0_ok hs) 53 rfl) (Nat.le_of_ble_eq_true rfl) rfl ?_
    refine go_aload_n (q := 1330) (gDec (iLw2_0_ok hs) 54 rfl) rfl rfl rfl ?_
    refine go_callV (n2 := n + 1) (q := 1333) kL_157 (ctX11_thrown (κ := κ) (σ := s')) (gDec (iLw2_0_ok hs) 55 rfl) rfl rfl (by decide) rfl rfl rfl (Nat.le_of_ble_eq_true rfl) rfl (hR _ _ (by decide) (Nat.le_refl _)) rfl ?_
    refine go_top (v' := xC kOA (fSetClass σ (gX κ (i + 1)) 1 (gX κ (i + 3))).1) (c2) ?_
    refine go_iload (q := 1335) (gDec (iLw2_0_ok hs) 56 rfl) rfl rfl ?_
    refine go_icmp_eq (t := 1340) (q := 1338) (gDec (iLw2_0_ok hs) 57 rfl) (by decide) rfl (fun c1335 => ?_) (fun c1335 => False.elim (c1335 rfl))
    refine go_iload (q := 1342) (gDec (iLw2_1_ok hs) 0 rfl) rfl rfl ?_
    refine go_if_ne (t := 1357) (q := 1345) (gDec (iLw2_1_ok hs) 1 rfl) (by decide) rfl (fun c1342 => ?_) (fun c1342 => ?_)
    · refine go_goto (t := 2942) (gDec (iLw2_1_ok hs) 11 rfl) (by decide) ?_
      refine go_sub (L' := [(0, .ref κ.2.2.2.2.1), (1, .ref (κ.2.1 + 0)), (2, .ref (κ.2.1 + 376)), (3, .ref (κ.2.1 + 390)), (4, .ref (κ.2.1 + 391)), (5, .int (nI i))]) ⟨rfl, rfl, rfl, rfl, rfl, rfl, trivial⟩ ?_
      exact hk s' c4
    · obtain ⟨v, he⟩ := (r_setClass (σ := σ) (a1 := (gX κ (i + 1))) (a2 := 1) (a3 := (gX κ (i + 3)))).resolve_right (fun h9 => h9 c1342)
      refine go_aload_n (q := 1346) (gDec (iLw2_1_ok hs) 2 rfl) rfl rfl rfl ?_
      refine go_iconst (v := 0) (q := 1347) (gDec (iLw2_1_ok hs) 3 rfl) (by decide) rfl ?_
      refine go_lald (q := 1348) (gDec (iLw2_1_ok hs) 4 rfl) rfl (by decide) vp_00 rfl ?_
      refine go_iload (q := 1350) (gDec (iLw2_1_ok hs) 5 rfl) rfl rfl ?_
      refine go_i2l (q := 1351) (gDec (iLw2_1_ok hs) 6 rfl) rfl ?_
      refine go_lcmp (q := 1352) (gDec (iLw2_1_ok hs) 7 rfl) rfl ?_
      refine go_top (v' := 0) ((lw_cmp he c3)) ?_
      refine go_if_eq (t := 1357) (q := 1355) (gDec (iLw2_1_ok hs) 8 rfl) (by decide) rfl (fun c1352 => ?_) (fun c1352 => False.elim (c1352 rfl))
      refine go_goto (t := 2942) (gDec (iLw2_1_ok hs) 11 rfl) (by decide) ?_
      refine go_sub (L' := [(0, .ref κ.2.2.2.2.1), (1, .ref (κ.2.1 + 0)), (2, .ref (κ.2.1 + 376)), (3, .ref (κ.2.1 + 390)), (4, .ref (κ.2.1 + 391)), (5, .int (nI i))]) ⟨rfl, rfl, rfl, rfl, rfl, rfl, trivial⟩ ?_
      exact hk s' c4

set_option maxHeartbeats 4000000 in
set_option maxRecDepth 100000 in
theorem lw_c14 {κ : gK} {hs : List (Nat × Nat × Nat × Nat)} {R : Room} {Z : gZ} {σ : gST} {n i : Nat} (h : gJ σ) (hi : i + 6 ≤ κ.2.2.2.2.2.1) (hL : κ.2.2.2.2.2.1 ≤ 3072) (hR : ∀ d m, d ≤ 10 → m ≤ n + 1 → gFit R d m) (hk : ∀ σ', gJ σ' → Go κ (mLw hs) R Z 2942 [(0, .ref κ.2.2.2.2.1), (1, .ref (κ.2.1 + 0)), (2, .ref (κ.2.1 + 376)), (3, .ref (κ.2.1 + 390)), (4, .ref (κ.2.1 + 391)), (5, .int (nI i))] [] σ' (n + 1)) : Go κ (mLw hs) R Z 1360 [(0, .ref κ.2.2.2.2.1), (1, .ref (κ.2.1 + 0)), (2, .ref (κ.2.1 + 376)), (3, .ref (κ.2.1 + 390)), (4, .ref (κ.2.1 + 391)), (5, .int (nI i))] [] σ n := by
  obtain ⟨s', c1, c2, c3, c4⟩ := j_kernClasses (κ := κ) (σ := σ) (a1 := (gX κ (i + 1))) (a2 := (gX κ (i + 2))) (a3 := (gX κ (i + 3))) h
  refine go_aload_n (q := 1361) (gDec (iLw2_1_ok hs) 12 rfl) rfl rfl rfl ?_
  refine go_aload_n (q := 1362) (gDec (iLw2_1_ok hs) 13 rfl) rfl rfl rfl ?_
  refine go_iload (q := 1364) (gDec (iLw2_1_ok hs) 14 rfl) rfl rfl ?_
  refine go_iconst (v := nI 1) (q := 1365) (gDec (iLw2_1_ok hs) 15 rfl) (by decide) rfl ?_
  refine go_iaddN (c := i + 1) (q := 1366) (gDec (iLw2_1_ok hs) 16 rfl) rfl rfl ?_
  refine go_sld (q := 1367) (gDec (iLw2_1_ok hs) 17 rfl) (vp_in_nI (by omega) (by omega)) rfl ?_
  refine go_top (v' := gX κ (i + 1)) (rfl) ?_
  refine go_aload_n (q := 1368) (gDec (iLw2_1_ok hs) 18 rfl) rfl rfl rfl ?_
  refine go_iload (q := 1370) (gDec (iLw2_1_ok hs) 19 rfl) rfl rfl ?_
  refine go_iconst (v := nI 2) (q := 1371) (gDec (iLw2_1_ok hs) 20 rfl) (by decide) rfl ?_
  refine go_iaddN (c := i + 2) (q := 1372) (gDec (iLw2_1_ok hs) 21 rfl) rfl rfl ?_
  refine go_sld (q := 1373) (gDec (iLw2_1_ok hs) 22 rfl) (vp_in_nI (by omega) (by omega)) rfl ?_
  refine go_top (v' := gX κ (i + 2)) (rfl) ?_
  refine go_aload_n (q := 1374) (gDec (iLw2_1_ok hs) 23 rfl) rfl rfl rfl ?_
  refine go_iload (q := 1376) (gDec (iLw2_1_ok hs) 24 rfl) rfl rfl ?_
  refine go_iconst (v := nI 3) (q := 1377) (gDec (iLw2_1_ok hs) 25 rfl) (by decide) rfl ?_
  refine go_iaddN (c := i + 3) (q := 1378) (gDec (iLw2_1_ok hs) 26 rfl) rfl rfl ?_
  refine go_sld (q := 1379) (gDec (iLw2_1_ok hs) 27 rfl) (vp_in_nI (by omega) (by omega)) rfl ?_
  refine go_top (v' := gX κ (i + 3)) (rfl) ?_
  refine go_aload_n (q := 1380) (gDec (iLw2_1_ok hs) 28 rfl) rfl rfl rfl ?_
  refine go_callH (n2 := n + 1) (q := 1383) kL_204 rfl (ctL_kernClasses (κ := κ) (σ := σ) (a1 := (gX κ (i + 1))) (a2 := (gX κ (i + 2))) (a3 := (gX κ (i + 3))) h) (gDec (iLw2_1_ok hs) 29 rfl) rfl rfl (Nat.le_of_ble_eq_true rfl) rfl (hR _ _ (by decide) (Nat.le_refl _)) rfl ?_
  refine go_istore (q := 1385) (gDec (iLw2_1_ok hs) 30 rfl) (Nat.le_of_ble_eq_true rfl) rfl ?_
  refine go_aload_n (q := 1386) (gDec (iLw2_1_ok hs) 31 rfl) rfl rfl rfl ?_
  refine go_aload_n (q := 1387) (gDec (iLw2_1_ok hs) 32 rfl) rfl rfl rfl ?_
  refine go_iload (q := 1389) (gDec (iLw2_1_ok hs) 33 rfl) rfl rfl ?_
  refine go_iconst (v := nI 1) (q := 1390) (gDec (iLw2_1_ok hs) 34 rfl) (by decide) rfl ?_
  refine go_iaddN (c := i + 1) (q := 1391) (gDec (iLw2_1_ok hs) 35 rfl) rfl rfl ?_
  refine go_sld (q := 1392) (gDec (iLw2_1_ok hs) 36 rfl) (vp_in_nI (by omega) (by omega)) rfl ?_
  refine go_top (v' := gX κ (i + 1)) (rfl) ?_
  refine go_aload_n (q := 1393) (gDec (iLw2_1_ok hs) 37 rfl) rfl rfl rfl ?_
  refine go_iload (q := 1395) (gDec (iLw2_1_ok hs) 38 rfl) rfl rfl ?_
  refine go_iconst (v := nI 2) (q := 1396) (gDec (iLw2_1_ok hs) 39 rfl) (by decide) rfl ?_
  refine go_iaddN (c := i + 2) (q := 1397) (gDec (iLw2_1_ok hs) 40 rfl) rfl rfl ?_
  refine go_sld (q := 1398) (gDec (iLw2_1_ok hs) 41 rfl) (vp_in_nI (by omega) (by omega)) rfl ?_
  refine go_top (v' := gX κ (i + 2)) (rfl) ?_
  refine go_aload_n (q := 1399) (gDec (iLw2_1_ok hs) 42 rfl) rfl rfl rfl ?_
  refine go_iload (q := 1401) (gDec (iLw2_1_ok hs) 43 rfl) rfl rfl ?_
  refine go_iconst (v := nI 3) (q := 1402) (gDec (iLw2_1_ok hs) 44 rfl) (by decide) rfl ?_
  refine go_iaddN (c := i + 3) (q := 1403) (gDec (iLw2_1_ok hs) 45 rfl) rfl rfl ?_
  refine go_sld (q := 1404) (gDec (iLw2_1_ok hs) 46 rfl) (vp_in_nI (by omega) (by omega)) rfl ?_
  refine go_top (v' := gX κ (i + 3)) (rfl) ?_
  refine go_callV (n2 := n + 1) (q := 1407) kL_206 c1 (gDec (iLw2_1_ok hs) 47 rfl) rfl rfl (by decide) rfl rfl rfl (Nat.le_of_ble_eq_true rfl) rfl (hR _ _ (by decide) (Nat.le_refl _)) rfl ?_
  refine go_istore (q := 1409) (gDec (iLw2_1_ok hs) 48 rfl) (Nat.le_of_ble_eq_true rfl) rfl ?_
  refine go_aload_n (q := 1410) (gDec (iLw2_1_ok hs) 49 rfl) rfl rfl rfl ?_
  refine go_callV (n2 := n + 1) (q := 1413) kL_157 (ctX11_thrown (κ := κ) (σ := s')) (gDec (iLw2_1_ok hs) 50 rfl) rfl rfl (by decide) rfl rfl rfl (Nat.le_of_ble_eq_true rfl) rfl (hR _ _ (by decide) (Nat.le_refl _)) rfl ?_
  refine go_top (v' := xC kOA (fKernClasses σ (gX κ (i + 1)) (gX κ (i + 2)) (gX κ (i + 3))).1) (c2) ?_
  refine go_iload (q := 1415) (gDec (iLw2_1_ok hs) 51 rfl) rfl rfl ?_
  refine go_icmp_eq (t := 1420) (q := 1418) (gDec (iLw2_1_ok hs) 52 rfl) (by decide) rfl (fun c1415 => ?_) (fun c1415 => False.elim (c1415 rfl))
  refine go_iload (q := 1422) (gDec (iLw2_1_ok hs) 55 rfl) rfl rfl ?_
  refine go_if_ne (t := 1437) (q := 1425) (gDec (iLw2_1_ok hs) 56 rfl) (by decide) rfl (fun c1422 => ?_) (fun c1422 => ?_)
  · refine go_goto (t := 2942) (gDec (iLw2_2_ok hs) 6 rfl) (by decide) ?_
    refine go_sub (L' := [(0, .ref κ.2.2.2.2.1), (1, .ref (κ.2.1 + 0)), (2, .ref (κ.2.1 + 376)), (3, .ref (κ.2.1 + 390)), (4, .ref (κ.2.1 + 391)), (5, .int (nI i))]) ⟨rfl, rfl, rfl, rfl, rfl, rfl, trivial⟩ ?_
    exact hk s' c4
  · obtain ⟨v, he⟩ := (r_kernClasses (σ := σ) (a1 := (gX κ (i + 1))) (a2 := (gX κ (i + 2))) (a3 := (gX κ (i + 3)))).resolve_right (fun h9 => h9 c1422)
    refine go_aload_n (q := 1426) (gDec (iLw2_1_ok hs) 57 rfl) rfl rfl rfl ?_
    refine go_iconst (v := 0) (q := 1427) (gDec (iLw2_1_ok hs) 58 rfl) (by decide) rfl ?_
    refine go_lald (q := 1428) (gDec (iLw2_1_ok hs) 59 rfl) rfl (by decide) vp_00 rfl ?_
    refine go_iload (q := 1430) (gDec (iLw2_2_ok hs) 0 rfl) rfl rfl ?_
    refine go_i2l (q := 1431) (gDec (iLw2_2_ok hs) 1 rfl) rfl ?_
    refine go_lcmp (q := 1432) (gDec (iLw2_2_ok hs) 2 rfl) rfl ?_
    refine go_top (v' := 0) ((lw_cmp he c3)) ?_
    refine go_if_eq (t := 1437) (q := 1435) (gDec (iLw2_2_ok hs) 3 rfl) (by decide) rfl (fun c1432 => ?_) (fun c1432 => False.elim (c1432 rfl))
    refine go_goto (t := 2942) (gDec (iLw2_2_ok hs) 6 rfl) (by decide) ?_
    refine go_sub (L' := [(0, .ref κ.2.2.2.2.1), (1, .ref (κ.2.1 + 0)), (2, .ref (κ.2.1 + 376)), (3, .ref (κ.2.1 + 390)), (4, .ref (κ.2.1 + 391)), (5, .int (nI i))]) ⟨rfl, rfl, rfl, rfl, rfl, rfl, trivial⟩ ?_
    exact hk s' c4

set_option maxHeartbeats 4000000 in
set_option maxRecDepth 100000 in
theorem lw_c15 {κ : gK} {hs : List (Nat × Nat × Nat × Nat)} {R : Room} {Z : gZ} {σ : gST} {n i : Nat} (h : gJ σ) (hi : i + 6 ≤ κ.2.2.2.2.2.1) (hL : κ.2.2.2.2.2.1 ≤ 3072) (hR : ∀ d m, d ≤ 10 → m ≤ n + 1 → gFit R d m) (hk : ∀ σ', gJ σ' → Go κ (mLw hs) R Z 2942 [(0, .ref κ.2.2.2.2.1), (1, .ref (κ.2.1 + 0)), (2, .ref (κ.2.1 + 376)), (3, .ref (κ.2.1 + 390)), (4, .ref (κ.2.1 + 391)), (5, .int (nI i))] [] σ' (n + 1)) : Go κ (mLw hs) R Z 1440 [(0, .ref κ.2.2.2.2.1), (1, .ref (κ.2.1 + 0)), (2, .ref (κ.2.1 + 376)), (3, .ref (κ.2.1 + 390)), (4, .ref (κ.2.1 + 391)), (5, .int (nI i))] [] σ n := by
  obtain ⟨s', c1, c2, c3, c4⟩ := j_kernPair (κ := κ) (σ := σ) (a1 := (gX κ (i + 1))) (a2 := (gX κ (i + 2))) (a3 := (gX κ (i + 3))) h
  refine go_aload_n (q := 1441) (gDec (iLw2_2_ok hs) 7 rfl) rfl rfl rfl ?_
  refine go_aload_n (q := 1442) (gDec (iLw2_2_ok hs) 8 rfl) rfl rfl rfl ?_
  refine go_iload (q := 1444) (gDec (iLw2_2_ok hs) 9 rfl) rfl rfl ?_
  refine go_iconst (v := nI 1) (q := 1445) (gDec (iLw2_2_ok hs) 10 rfl) (by decide) rfl ?_
  refine go_iaddN (c := i + 1) (q := 1446) (gDec (iLw2_2_ok hs) 11 rfl) rfl rfl ?_
  refine go_sld (q := 1447) (gDec (iLw2_2_ok hs) 12 rfl) (vp_in_nI (by omega) (by omega)) rfl ?_
  refine go_top (v' := gX κ (i + 1)) (rfl) ?_
  refine go_aload_n (q := 1448) (gDec (iLw2_2_ok hs) 13 rfl) rfl rfl rfl ?_
  refine go_iload (q := 1450) (gDec (iLw2_2_ok hs) 14 rfl) rfl rfl ?_
  refine go_iconst (v := nI 2) (q := 1451) (gDec (iLw2_2_ok hs) 15 rfl) (by decide) rfl ?_
  refine go_iaddN (c := i + 2) (q := 1452) (gDec (iLw2_2_ok hs) 16 rfl) rfl rfl ?_
  refine go_sld (q := 1453) (gDec (iLw2_2_ok hs) 17 rfl) (vp_in_nI (by omega) (by omega)) rfl ?_
  refine go_top (v' := gX κ (i + 2)) (rfl) ?_
  refine go_aload_n (q := 1454) (gDec (iLw2_2_ok hs) 18 rfl) rfl rfl rfl ?_
  refine go_iload (q := 1456) (gDec (iLw2_2_ok hs) 19 rfl) rfl rfl ?_
  refine go_iconst (v := nI 3) (q := 1457) (gDec (iLw2_2_ok hs) 20 rfl) (by decide) rfl ?_
  refine go_iaddN (c := i + 3) (q := 1458) (gDec (iLw2_2_ok hs) 21 rfl) rfl rfl ?_
  refine go_sld (q := 1459) (gDec (iLw2_2_ok hs) 22 rfl) (vp_in_nI (by omega) (by omega)) rfl ?_
  refine go_top (v' := gX κ (i + 3)) (rfl) ?_
  refine go_aload_n (q := 1460) (gDec (iLw2_2_ok hs) 23 rfl) rfl rfl rfl ?_
  refine go_callH (n2 := n + 1) (q := 1463) kL_207 rfl (ctL_kernPair (κ := κ) (σ := σ) (a1 := (gX κ (i + 1))) (a2 := (gX κ (i + 2))) (a3 := (gX κ (i + 3))) h) (gDec (iLw2_2_ok hs) 24 rfl) rfl rfl (Nat.le_of_ble_eq_true rfl) rfl (hR _ _ (by decide) (Nat.le_refl _)) rfl ?_
  refine go_istore (q := 1465) (gDec (iLw2_2_ok hs) 25 rfl) (Nat.le_of_ble_eq_true rfl) rfl ?_
  refine go_aload_n (q := 1466) (gDec (iLw2_2_ok hs) 26 rfl) rfl rfl rfl ?_
  refine go_aload_n (q := 1467) (gDec (iLw2_2_ok hs) 27 rfl) rfl rfl rfl ?_
  refine go_iload (q := 1469) (gDec (iLw2_2_ok hs) 28 rfl) rfl rfl ?_
  refine go_iconst (v := nI 1) (q := 1470) (gDec (iLw2_2_ok hs) 29 rfl) (by decide) rfl ?_
  refine go_iaddN (c := i + 1) (q := 1471) (gDec (iLw2_2_ok hs) 30 rfl) rfl rfl ?_
  refine go_sld (q := 1472) (gDec (iLw2_2_ok hs) 31 rfl) (vp_in_nI (by omega) (by omega)) rfl ?_
  refine go_top (v' := gX κ (i + 1)) (rfl) ?_
  refine go_aload_n (q := 1473) (gDec (iLw2_2_ok hs) 32 rfl) rfl rfl rfl ?_
  refine go_iload (q := 1475) (gDec (iLw2_2_ok hs) 33 rfl) rfl rfl ?_
  refine go_iconst (v := nI 2) (q := 1476) (gDec (iLw2_2_ok hs) 34 rfl) (by decide) rfl ?_
  refine go_iaddN (c := i + 2) (q := 1477) (gDec (iLw2_2_ok hs) 35 rfl) rfl rfl ?_
  refine go_sld (q := 1478) (gDec (iLw2_2_ok hs) 36 rfl) (vp_in_nI (by omega) (by omega)) rfl ?_
  refine go_top (v' := gX κ (i + 2)) (rfl) ?_
  refine go_aload_n (q := 1479) (gDec (iLw2_2_ok hs) 37 rfl) rfl rfl rfl ?_
  refine go_iload (q := 1481) (gDec (iLw2_2_ok hs) 38 rfl) rfl rfl ?_
  refine go_iconst (v := nI 3) (q := 1482) (gDec (iLw2_2_ok hs) 39 rfl) (by decide) rfl ?_
  refine go_iaddN (c := i + 3) (q := 1483) (gDec (iLw2_2_ok hs) 40 rfl) rfl rfl ?_
  refine go_sld (q := 1484) (gDec (iLw2_2_ok hs) 41 rfl) (vp_in_nI (by omega) (by omega)) rfl ?_
  refine go_top (v' := gX κ (i + 3)) (rfl) ?_
  refine go_callV (n2 := n + 1) (q := 1487) kL_209 c1 (gDec (iLw2_2_ok hs) 42 rfl) rfl rfl (by decide) rfl rfl rfl (Nat.le_of_ble_eq_true rfl) rfl (hR _ _ (by decide) (Nat.le_refl _)) rfl ?_
  refine go_istore (q := 1489) (gDec (iLw2_2_ok hs) 43 rfl) (Nat.le_of_ble_eq_true rfl) rfl ?_
  refine go_aload_n (q := 1490) (gDec (iLw2_2_ok hs) 44 rfl) rfl rfl rfl ?_
  refine go_callV (n2 := n + 1) (q := 1493) kL_157 (ctX11_thrown (κ := κ) (σ := s')) (gDec (iLw2_2_ok hs) 45 rfl) rfl rfl (by decide) rfl rfl rfl (Nat.le_of_ble_eq_true rfl) rfl (hR _ _ (by decide) (Nat.le_refl _)) rfl ?_
  refine go_top (v' := xC kOAS (fKernPair σ (gX κ (i + 1)) (gX κ (i + 2)) (gX κ (i + 3))).1) (c2) ?_
  refine go_iload (q := 1495) (gDec (iLw2_2_ok hs) 46 rfl) rfl rfl ?_
  refine go_icmp_eq (t := 1500) (q := 1498) (gDec (iLw2_2_ok hs) 47 rfl) (by decide) rfl (fun c1495 => ?_) (fun c1495 => False.elim (c1495 rfl))
  refine go_iload (q := 1502) (gDec (iLw2_2_ok hs) 50 rfl) rfl rfl ?_
  refine go_if_ne (t := 1517) (q := 1505) (gDec (iLw2_2_ok hs) 51 rfl) (by decide) rfl (fun c1502 => ?_) (fun c1502 => ?_)
  · refine go_goto (t := 2942) (gDec (iLw2_3_ok hs) 1 rfl) (by decide) ?_
    refine go_sub (L' := [(0, .ref κ.2.2.2.2.1), (1, .ref (κ.2.1 + 0)), (2, .ref (κ.2.1 + 376)), (3, .ref (κ.2.1 + 390)), (4, .ref (κ.2.1 + 391)), (5, .int (nI i))]) ⟨rfl, rfl, rfl, rfl, rfl, rfl, trivial⟩ ?_
    exact hk s' c4
  · obtain ⟨v, he⟩ := (r_kernPair (σ := σ) (a1 := (gX κ (i + 1))) (a2 := (gX κ (i + 2))) (a3 := (gX κ (i + 3)))).resolve_right (fun h9 => h9 c1502)
    refine go_aload_n (q := 1506) (gDec (iLw2_2_ok hs) 52 rfl) rfl rfl rfl ?_
    refine go_iconst (v := 0) (q := 1507) (gDec (iLw2_2_ok hs) 53 rfl) (by decide) rfl ?_
    refine go_lald (q := 1508) (gDec (iLw2_2_ok hs) 54 rfl) rfl (by decide) vp_00 rfl ?_
    refine go_iload (q := 1510) (gDec (iLw2_2_ok hs) 55 rfl) rfl rfl ?_
    refine go_i2l (q := 1511) (gDec (iLw2_2_ok hs) 56 rfl) rfl ?_
    refine go_lcmp (q := 1512) (gDec (iLw2_2_ok hs) 57 rfl) rfl ?_
    refine go_top (v' := 0) ((lw_cmp he c3)) ?_
    refine go_if_eq (t := 1517) (q := 1515) (gDec (iLw2_2_ok hs) 58 rfl) (by decide) rfl (fun c1512 => ?_) (fun c1512 => False.elim (c1512 rfl))
    refine go_goto (t := 2942) (gDec (iLw2_3_ok hs) 1 rfl) (by decide) ?_
    refine go_sub (L' := [(0, .ref κ.2.2.2.2.1), (1, .ref (κ.2.1 + 0)), (2, .ref (κ.2.1 + 376)), (3, .ref (κ.2.1 + 390)), (4, .ref (κ.2.1 + 391)), (5, .int (nI i))]) ⟨rfl, rfl, rfl, rfl, rfl, rfl, trivial⟩ ?_
    exact hk s' c4

set_option maxHeartbeats 4000000 in
set_option maxRecDepth 100000 in
theorem lw_c16 {κ : gK} {hs : List (Nat × Nat × Nat × Nat)} {R : Room} {Z : gZ} {σ : gST} {n i : Nat} (h : gJ σ) (hi : i + 6 ≤ κ.2.2.2.2.2.1) (hL : κ.2.2.2.2.2.1 ≤ 3072) (hR : ∀ d m, d ≤ 10 → m ≤ n + 1 → gFit R d m) (hk : ∀ σ', gJ σ' → Go κ (mLw hs) R Z 2942 [(0, .ref κ.2.2.2.2.1), (1, .ref (κ.2.1 + 0)), (2, .ref (κ.2.1 + 376)), (3, .ref (κ.2.1 + 390)), (4, .ref (κ.2.1 + 391)), (5, .int (nI i))] [] σ' (n + 1)) : Go κ (mLw hs) R Z 1520 [(0, .ref κ.2.2.2.2.1), (1, .ref (κ.2.1 + 0)), (2, .ref (κ.2.1 + 376)), (3, .ref (κ.2.1 + 390)), (4, .ref (κ.2.1 + 391)), (5, .int (nI i))] [] σ n := by
  by_cases hb : gX κ (i + 1) = 0
  · obtain ⟨s', c1, c2, c3, c4⟩ := j_dropKern (κ := κ) (σ := σ) (a1 := 0) (a2 := (gX κ (i + 2))) (a3 := (gX κ (i + 3))) h
    refine go_aload_n (q := 1521) (gDec (iLw2_3_ok hs) 2 rfl) rfl rfl rfl ?_
    refine go_aload_n (q := 1522) (gDec (iLw2_3_ok hs) 3 rfl) rfl rfl rfl ?_
    refine go_iload (q := 1524) (gDec (iLw2_3_ok hs) 4 rfl) rfl rfl ?_
    refine go_iconst (v := nI 1) (q := 1525) (gDec (iLw2_3_ok hs) 5 rfl) (by decide) rfl ?_
    refine go_iaddN (c := i + 1) (q := 1526) (gDec (iLw2_3_ok hs) 6 rfl) rfl rfl ?_
    refine go_sld (q := 1527) (gDec (iLw2_3_ok hs) 7 rfl) (vp_in_nI (by omega) (by omega)) rfl ?_
    refine go_top (v' := gX κ (i + 1)) (rfl) ?_
    refine go_if_eq (t := 1534) (q := 1530) (gDec (iLw2_3_ok hs) 8 rfl) (by decide) rfl (fun c1527 => ?_) (fun c1527 => False.elim (c1527 hb))
    refine go_iconst (v := 0) (q := 1535) (gDec (iLw2_3_ok hs) 11 rfl) (by decide) rfl ?_
    refine go_aload_n (q := 1536) (gDec (iLw2_3_ok hs) 12 rfl) rfl rfl rfl ?_
    refine go_iload (q := 1538) (gDec (iLw2_3_ok hs) 13 rfl) rfl rfl ?_
    refine go_iconst (v := nI 2) (q := 1539) (gDec (iLw2_3_ok hs) 14 rfl) (by decide) rfl ?_
    refine go_iaddN (c := i + 2) (q := 1540) (gDec (iLw2_3_ok hs) 15 rfl) rfl rfl ?_
    refine go_sld (q := 1541) (gDec (iLw2_3_ok hs) 16 rfl) (vp_in_nI (by omega) (by omega)) rfl ?_
    refine go_top (v' := gX κ (i + 2)) (rfl) ?_
    refine go_aload_n (q := 1542) (gDec (iLw2_3_ok hs) 17 rfl) rfl rfl rfl ?_
    refine go_iload (q := 1544) (gDec (iLw2_3_ok hs) 18 rfl) rfl rfl ?_
    refine go_iconst (v := nI 3) (q := 1545) (gDec (iLw2_3_ok hs) 19 rfl) (by decide) rfl ?_
    refine go_iaddN (c := i + 3) (q := 1546) (gDec (iLw2_3_ok hs) 20 rfl) rfl rfl ?_
    refine go_sld (q := 1547) (gDec (iLw2_3_ok hs) 21 rfl) (vp_in_nI (by omega) (by omega)) rfl ?_
    refine go_top (v' := gX κ (i + 3)) (rfl) ?_
    refine go_aload_n (q := 1548) (gDec (iLw2_3_ok hs) 22 rfl) rfl rfl rfl ?_
    refine go_callH (n2 := n + 1) (q := 1551) kL_210 rfl (ctL_dropKern (κ := κ) (σ := σ) (a1 := 0) (a2 := (gX κ (i + 2))) (a3 := (gX κ (i + 3))) h) (gDec (iLw2_3_ok hs) 23 rfl) rfl rfl (Nat.le_of_ble_eq_true rfl) rfl (hR _ _ (by decide) (Nat.le_refl _)) rfl ?_
    refine go_istore (q := 1553) (gDec (iLw2_3_ok hs) 24 rfl) (Nat.le_of_ble_eq_true rfl) rfl ?_
    refine go_aload_n (q := 1554) (gDec (iLw2_3_ok hs) 25 rfl) rfl rfl rfl ?_
    refine go_aload_n (q := 1555) (gDec (iLw2_3_ok hs) 26 rfl) rfl rfl rfl ?_
    refine go_iload (q := 1557) (gDec (iLw2_3_ok hs) 27 rfl) rfl rfl ?_
    refine go_iconst (v := nI 1) (q := 1558) (gDec (iLw2_3_ok hs) 28 rfl) (by decide) rfl ?_
    refine go_iaddN (c := i + 1) (q := 1559) (gDec (iLw2_3_ok hs) 29 rfl) rfl rfl ?_
    refine go_sld (q := 1560) (gDec (iLw2_3_ok hs) 30 rfl) (vp_in_nI (by omega) (by omega)) rfl ?_
    refine go_top (v' := gX κ (i + 1)) (rfl) ?_
    refine go_if_eq (t := 1567) (q := 1563) (gDec (iLw2_3_ok hs) 31 rfl) (by decide) rfl (fun c1560 => ?_) (fun c1560 => False.elim (c1560 hb))
    refine go_iconst (v := 0) (q := 1568) (gDec (iLw2_3_ok hs) 34 rfl) (by decide) rfl ?_
    refine go_aload_n (q := 1569) (gDec (iLw2_3_ok hs) 35 rfl) rfl rfl rfl ?_
    refine go_iload (q := 1571) (gDec (iLw2_3_ok hs) 36 rfl) rfl rfl ?_
    refine go_iconst (v := nI 2) (q := 1572) (gDec (iLw2_3_ok hs) 37 rfl) (by decide) rfl ?_
    refine go_iaddN (c := i + 2) (q := 1573) (gDec (iLw2_3_ok hs) 38 rfl) rfl rfl ?_
    refine go_sld (q := 1574) (gDec (iLw2_3_ok hs) 39 rfl) (vp_in_nI (by omega) (by omega)) rfl ?_
    refine go_top (v' := gX κ (i + 2)) (rfl) ?_
    refine go_aload_n (q := 1575) (gDec (iLw2_3_ok hs) 40 rfl) rfl rfl rfl ?_
    refine go_iload (q := 1577) (gDec (iLw2_3_ok hs) 41 rfl) rfl rfl ?_
    refine go_iconst (v := nI 3) (q := 1578) (gDec (iLw2_3_ok hs) 42 rfl) (by decide) rfl ?_
    refine go_iaddN (c := i + 3) (q := 1579) (gDec (iLw2_3_ok hs) 43 rfl) rfl rfl ?_
    refine go_sld (q := 1580) (gDec (iLw2_3_ok hs) 44 rfl) (vp_in_nI (by omega) (by omega)) rfl ?_
    refine go_top (v' := gX κ (i + 3)) (rfl) ?_
    refine go_callV (n2 := n + 1) (q := 1583) kL_213 c1 (gDec (iLw2_3_ok hs) 45 rfl) rfl rfl (by decide) rfl rfl rfl (Nat.le_of_ble_eq_true rfl) rfl (hR _ _ (by decide) (Nat.le_refl _)) rfl ?_
    refine go_istore (q := 1585) (gDec (iLw2_3_ok hs) 46 rfl) (Nat.le_of_ble_eq_true rfl) rfl ?_
    refine go_aload_n (q := 1586) (gDec (iLw2_3_ok hs) 47 rfl) rfl rfl rfl ?_
    refine go_callV (n2 := n + 1) (q := 1589) kL_157 (ctX11_thrown (κ := κ) (σ := s')) (gDec (iLw2_3_ok hs) 48 rfl) rfl rfl (by decide) rfl rfl rfl (Nat.le_of_ble_eq_true rfl) rfl (hR _ _ (by decide) (Nat.le_refl _)) rfl ?_
    refine go_top (v' := xC kN (fDropKern σ 0 (gX κ (i + 2)) (gX κ (i + 3))).1) (c2) ?_
    refine go_iload (q := 1591) (gDec (iLw2_3_ok hs) 49 rfl) rfl rfl ?_
    refine go_icmp_eq (t := 1596) (q := 1594) (gDec (iLw2_3_ok hs) 50 rfl) (by decide) rfl (fun c1591 => ?_) (fun c1591 => False.elim (c1591 rfl))
    refine go_iload (q := 1598) (gDec (iLw2_3_ok hs) 53 rfl) rfl rfl ?_
    refine go_if_ne (t := 1613) (q := 1601) (gDec (iLw2_3_ok hs) 54 rfl) (by decide) rfl (fun c1598 => ?_) (fun c1598 => ?_)
    · refine go_goto (t := 2942) (gDec (iLw2_4_ok hs) 4 rfl) (by decide) ?_
      refine go_sub (L' := [(0, .ref κ.2.2.2.2.1), (1, .ref (κ.2.1 + 0)), (2, .ref (κ.2.1 + 376)), (3, .ref (κ.2.1 + 390)), (4, .ref (κ.2.1 + 391)), (5, .int (nI i))]) ⟨rfl, rfl, rfl, rfl, rfl, rfl, trivial⟩ ?_
      exact hk s' c4
    · obtain ⟨v, he⟩ := (r_dropKern (σ := σ) (a1 := 0) (a2 := (gX κ (i + 2))) (a3 := (gX κ (i + 3)))).resolve_right (fun h9 => h9 c1598)
      refine go_aload_n (q := 1602) (gDec (iLw2_3_ok hs) 55 rfl) rfl rfl rfl ?_
      refine go_iconst (v := 0) (q := 1603) (gDec (iLw2_3_ok hs) 56 rfl) (by decide) rfl ?_
      refine go_lald (q := 1604) (gDec (iLw2_3_ok hs) 57 rfl) rfl (by decide) vp_00 rfl ?_
      refine go_iload (q := 1606) (gDec (iLw2_3_ok hs) 58 rfl) rfl rfl ?_
      refine go_i2l (q := 1607) (gDec (iLw2_3_ok hs) 59 rfl) rfl ?_
      refine go_lcmp (q := 1608) (gDec (iLw2_4_ok hs) 0 rfl) rfl ?_
      refine go_top (v' := 0) ((lw_cmp he c3)) ?_
      refine go_if_eq (t := 1613) (q := 1611) (gDec (iLw2_4_ok hs) 1 rfl) (by decide) rfl (fun c1608 => ?_) (fun c1608 => False.elim (c1608 rfl))
      refine go_goto (t := 2942) (gDec (iLw2_4_ok hs) 4 rfl) (by decide) ?_
      refine go_sub (L' := [(0, .ref κ.2.2.2.2.1), (1, .ref (κ.2.1 + 0)), (2, .ref (κ.2.1 + 376)), (3, .ref (κ.2.1 + 390)), (4, .ref (κ.2.1 + 391)), (5, .int (nI i))]) ⟨rfl, rfl, rfl, rfl, rfl, rfl, trivial⟩ ?_
      exact hk s' c4
  · obtain ⟨s', c1, c2, c3, c4⟩ := j_dropKern (κ := κ) (σ := σ) (a1 := 1) (a2 := (gX κ (i + 2))) (a3 := (gX κ (i + 3))) h
    refine go_aload_n (q := 1521) (gDec (iLw2_3_ok hs) 2 rfl) rfl rfl rfl ?_
    refine go_aload_n (q := 1522) (gDec (iLw2_3_ok hs) 3 rfl) rfl rfl rfl ?_
    refine go_iload (q := 1524) (gDec (iLw2_3_ok hs) 4 rfl) rfl rfl ?_
    refine go_iconst (v := nI 1) (q := 1525) (gDec (iLw2_3_ok hs) 5 rfl) (by decide) rfl ?_
    refine go_iaddN (c := i + 1) (q := 1526) (gDec (iLw2_3_ok hs) 6 rfl) rfl rfl ?_
    refine go_sld (q := 1527) (gDec (iLw2_3_ok hs) 7 rfl) (vp_in_nI (by omega) (by omega)) rfl ?_
    refine go_top (v' := gX κ (i + 1)) (rfl) ?_
    refine go_if_eq (t := 1534) (q := 1530) (gDec (iLw2_3_ok hs) 8 rfl) (by decide) rfl (fun c1527 => False.elim (hb c1527)) (fun c1527 => ?_)
    refine go_iconst (v := 1) (q := 1531) (gDec (iLw2_3_ok hs) 9 rfl) (by decide) rfl ?_
    refine go_goto (t := 1535) (gDec (iLw2_3_ok hs) 10 rfl) (by decide) ?_
    refine go_aload_n (q := 1536) (gDec (iLw2_3_ok hs) 12 rfl) rfl rfl rfl ?_
    refine go_iload (q := 1538) (gDec (iLw2_3_ok hs) 13 rfl) rfl rfl ?_
    refine go_iconst (v := nI 2) (q := 1539) (gDec (iLw2_3_ok hs) 14 rfl) (by decide) rfl ?_
    refine go_iaddN (c := i + 2) (q := 1540) (gDec (iLw2_3_ok hs) 15 rfl) rfl rfl ?_
    refine go_sld (q := 1541) (gDec (iLw2_3_ok hs) 16 rfl) (vp_in_nI (by omega) (by omega)) rfl ?_
    refine go_top (v' := gX κ (i + 2)) (rfl) ?_
    refine go_aload_n (q := 1542) (gDec (iLw2_3_ok hs) 17 rfl) rfl rfl rfl ?_
    refine go_iload (q := 1544) (gDec (iLw2_3_ok hs) 18 rfl) rfl rfl ?_
    refine go_iconst (v := nI 3) (q := 1545) (gDec (iLw2_3_ok hs) 19 rfl) (by decide) rfl ?_
    refine go_iaddN (c := i + 3) (q := 1546) (gDec (iLw2_3_ok hs) 20 rfl) rfl rfl ?_
    refine go_sld (q := 1547) (gDec (iLw2_3_ok hs) 21 rfl) (vp_in_nI (by omega) (by omega)) rfl ?_
    refine go_top (v' := gX κ (i + 3)) (rfl) ?_
    refine go_aload_n (q := 1548) (gDec (iLw2_3_ok hs) 22 rfl) rfl rfl rfl ?_
    refine go_callH (n2 := n + 1) (q := 1551) kL_210 rfl (ctL_dropKern (κ := κ) (σ := σ) (a1 := 1) (a2 := (gX κ (i + 2))) (a3 := (gX κ (i + 3))) h) (gDec (iLw2_3_ok hs) 23 rfl) rfl rfl (Nat.le_of_ble_eq_true rfl) rfl (hR _ _ (by decide) (Nat.le_refl _)) rfl ?_
    refine go_istore (q := 1553) (gDec (iLw2_3_ok hs) 24 rfl) (Nat.le_of_ble_eq_true rfl) rfl ?_
    refine go_aload_n (q := 1554) (gDec (iLw2_3_ok hs) 25 rfl) rfl rfl rfl ?_
    refine go_aload_n (q := 1555) (gDec (iLw2_3_ok hs) 26 rfl) rfl rfl rfl ?_
    refine go_iload (q := 1557) (gDec (iLw2_3_ok hs) 27 rfl) rfl rfl ?_
    refine go_iconst (v := nI 1) (q := 1558) (gDec (iLw2_3_ok hs) 28 rfl) (by decide) rfl ?_
    refine go_iaddN (c := i + 1) (q := 1559) (gDec (iLw2_3_ok hs) 29 rfl) rfl rfl ?_
    refine go_sld (q := 1560) (gDec (iLw2_3_ok hs) 30 rfl) (vp_in_nI (by omega) (by omega)) rfl ?_
    refine go_top (v' := gX κ (i + 1)) (rfl) ?_
    refine go_if_eq (t := 1567) (q := 1563) (gDec (iLw2_3_ok hs) 31 rfl) (by decide) rfl (fun c1560 => False.elim (hb c1560)) (fun c1560 => ?_)
    refine go_iconst (v := 1) (q := 1564) (gDec (iLw2_3_ok hs) 32 rfl) (by decide) rfl ?_
    refine go_goto (t := 1568) (gDec (iLw2_3_ok hs) 33 rfl) (by decide) ?_
    refine go_aload_n (q := 1569) (gDec (iLw2_3_ok hs) 35 rfl) rfl rfl rfl ?_
    refine go_iload (q := 1571) (gDec (iLw2_3_ok hs) 36 rfl) rfl rfl ?_
    refine go_iconst (v := nI 2) (q := 1572) (gDec (iLw2_3_ok hs) 37 rfl) (by decide) rfl ?_
    refine go_iaddN (c := i + 2) (q := 1573) (gDec (iLw2_3_ok hs) 38 rfl) rfl rfl ?_
    refine go_sld (q := 1574) (gDec (iLw2_3_ok hs) 39 rfl) (vp_in_nI (by omega) (by omega)) rfl ?_
    refine go_top (v' := gX κ (i + 2)) (rfl) ?_
    refine go_aload_n (q := 1575) (gDec (iLw2_3_ok hs) 40 rfl) rfl rfl rfl ?_
    refine go_iload (q := 1577) (gDec (iLw2_3_ok hs) 41 rfl) rfl rfl ?_
    refine go_iconst (v := nI 3) (q := 1578) (gDec (iLw2_3_ok hs) 42 rfl) (by decide) rfl ?_
    refine go_iaddN (c := i + 3) (q := 1579) (gDec (iLw2_3_ok hs) 43 rfl) rfl rfl ?_
    refine go_sld (q := 1580) (gDec (iLw2_3_ok hs) 44 rfl) (vp_in_nI (by omega) (by omega)) rfl ?_
    refine go_top (v' := gX κ (i + 3)) (rfl) ?_
    refine go_callV (n2 := n + 1) (q := 1583) kL_213 c1 (gDec (iLw2_3_ok hs) 45 rfl) rfl rfl (by decide) rfl rfl rfl (Nat.le_of_ble_eq_true rfl) rfl (hR _ _ (by decide) (Nat.le_refl _)) rfl ?_
    refine go_istore (q := 1585) (gDec (iLw2_3_ok hs) 46 rfl) (Nat.le_of_ble_eq_true rfl) rfl ?_
    refine go_aload_n (q := 1586) (gDec (iLw2_3_ok hs) 47 rfl) rfl rfl rfl ?_
    refine go_callV (n2 := n + 1) (q := 1589) kL_157 (ctX11_thrown (κ := κ) (σ := s')) (gDec (iLw2_3_ok hs) 48 rfl) rfl rfl (by decide) rfl rfl rfl (Nat.le_of_ble_eq_true rfl) rfl (hR _ _ (by decide) (Nat.le_refl _)) rfl ?_
    refine go_top (v' := xC kN (fDropKern σ 1 (gX κ (i + 2)) (gX κ (i + 3))).1) (c2) ?_
    refine go_iload (q := 1591) (gDec (iLw2_3_ok hs) 49 rfl) rfl rfl ?_
    refine go_icmp_eq (t := 1596) (q := 1594) (gDec (iLw2_3_ok hs) 50 rfl) (by decide) rfl (fun c1591 => ?_) (fun c1591 => False.elim (c1591 rfl))
    refine go_iload (q := 1598) (gDec (iLw2_3_ok hs) 53 rfl) rfl rfl ?_
    refine go_if_ne (t := 1613) (q := 1601) (gDec (iLw2_3_ok hs) 54 rfl) (by decide) rfl (fun c1598 => ?_) (fun c1598 => ?_)
    · refine go_goto (t := 2942) (gDec (iLw2_4_ok hs) 4 rfl) (by decide) ?_
      refine go_sub (L' := [(0, .ref κ.2.2.2.2.1), (1, .ref (κ.2.1 + 0)), (2, .ref (κ.2.1 + 376)), (3, .ref (κ.2.1 + 390)), (4, .ref (κ.2.1 + 391)), (5, .int (nI i))]) ⟨rfl, rfl, rfl, rfl, rfl, rfl, trivial⟩ ?_
      exact hk s' c4
    · obtain ⟨v, he⟩ := (r_dropKern (σ := σ) (a1 := 1) (a2 := (gX κ (i + 2))) (a3 := (gX κ (i + 3)))).resolve_right (fun h9 => h9 c1598)
      refine go_aload_n (q := 1602) (gDec (iLw2_3_ok hs) 55 rfl) rfl rfl rfl ?_
      refine go_iconst (v := 0) (q := 1603) (gDec (iLw2_3_ok hs) 56 rfl) (by decide) rfl ?_
      refine go_lald (q := 1604) (gDec (iLw2_3_ok hs) 57 rfl) rfl (by decide) vp_00 rfl ?_
      refine go_iload (q := 1606) (gDec (iLw2_3_ok hs) 58 rfl) rfl rfl ?_
      refine go_i2l (q := 1607) (gDec (iLw2_3_ok hs) 59 rfl) rfl ?_
      refine go_lcmp (q := 1608) (gDec (iLw2_4_ok hs) 0 rfl) rfl ?_
      refine go_top (v' := 0) ((lw_cmp he c3)) ?_
      refine go_if_eq (t := 1613) (q := 1611) (gDec (iLw2_4_ok hs) 1 rfl) (by decide) rfl (fun c1608 => ?_) (fun c1608 => False.elim (c1608 rfl))
      refine go_goto (t := 2942) (gDec (iLw2_4_ok hs) 4 rfl) (by decide) ?_
      refine go_sub (L' := [(0, .ref κ.2.2.2.2.1), (1, .ref (κ.2.1 + 0)), (2, .ref (κ.2.1 + 376)), (3, .ref (κ.2.1 + 390)), (4, .ref (κ.2.1 + 391)), (5, .int (nI i))]) ⟨rfl, rfl, rfl, rfl, rfl, rfl, trivial⟩ ?_
      exact hk s' c4

set_option maxHeartbeats 4000000 in
set_option maxRecDepth 100000 in
theorem lw_c17 {κ : gK} {hs : List (Nat × Nat × Nat × Nat)} {R : Room} {Z : gZ} {σ : gST} {n i : Nat} (h : gJ σ) (hi : i + 6 ≤ κ.2.2.2.2.2.1) (hL : κ.2.2.2.2.2.1 ≤ 3072) (hR : ∀ d m, d ≤ 10 → m ≤ n + 1 → gFit R d m) (hk : ∀ σ', gJ σ' → Go κ (mLw hs) R Z 2942 [(0, .ref κ.2.2.2.2.1), (1, .ref (κ.2.1 + 0)), (2, .ref (κ.2.1 + 376)), (3, .ref (κ.2.1 + 390)), (4, .ref (κ.2.1 + 391)), (5, .int (nI i))] [] σ' (n + 1)) : Go κ (mLw hs) R Z 1616 [(0, .ref κ.2.2.2.2.1), (1, .ref (κ.2.1 + 0)), (2, .ref (κ.2.1 + 376)), (3, .ref (κ.2.1 + 390)), (4, .ref (κ.2.1 + 391)), (5, .int (nI i))] [] σ n := by
  obtain ⟨s', c1, c2, c3, c4⟩ := j_kern (κ := κ) (σ := σ) (a1 := (gX κ (i + 1))) (a2 := (gX κ (i + 2))) h
  refine go_aload_n (q := 1617) (gDec (iLw2_4_ok hs) 5 rfl) rfl rfl rfl ?_
  refine go_aload_n (q := 1618) (gDec (iLw2_4_ok hs) 6 rfl) rfl rfl rfl ?_
  refine go_iload (q := 1620) (gDec (iLw2_4_ok hs) 7 rfl) rfl rfl ?_
  refine go_iconst (v := nI 1) (q := 1621) (gDec (iLw2_4_ok hs) 8 rfl) (by decide) rfl ?_
  refine go_iaddN (c := i + 1) (q := 1622) (gDec (iLw2_4_ok hs) 9 rfl) rfl rfl ?_
  refine go_sld (q := 1623) (gDec (iLw2_4_ok hs) 10 rfl) (vp_in_nI (by omega) (by omega)) rfl ?_
  refine go_top (v' := gX κ (i + 1)) (rfl) ?_
  refine go_aload_n (q := 1624) (gDec (iLw2_4_ok hs) 11 rfl) rfl rfl rfl ?_
  refine go_iload (q := 1626) (gDec (iLw2_4_ok hs) 12 rfl) rfl rfl ?_
  refine go_iconst (v := nI 2) (q := 1627) (gDec (iLw2_4_ok hs) 13 rfl) (by decide) rfl ?_
  refine go_iaddN (c := i + 2) (q := 1628) (gDec (iLw2_4_ok hs) 14 rfl) rfl rfl ?_
  refine go_sld (q := 1629) (gDec (iLw2_4_ok hs) 15 rfl) (vp_in_nI (by omega) (by omega)) rfl ?_
  refine go_top (v' := gX κ (i + 2)) (rfl) ?_
  refine go_aload_n (q := 1630) (gDec (iLw2_4_ok hs) 16 rfl) rfl rfl rfl ?_
  refine go_callH (n2 := n + 1) (q := 1633) kL_214 rfl (ctL_kern (κ := κ) (σ := σ) (a1 := (gX κ (i + 1))) (a2 := (gX κ (i + 2))) h) (gDec (iLw2_4_ok hs) 17 rfl) rfl rfl (Nat.le_of_ble_eq_true rfl) rfl (hR _ _ (by decide) (Nat.le_refl _)) rfl ?_
  refine go_istore (q := 1635) (gDec (iLw2_4_ok hs) 18 rfl) (Nat.le_of_ble_eq_true rfl) rfl ?_
  refine go_aload_n (q := 1636) (gDec (iLw2_4_ok hs) 19 rfl) rfl rfl rfl ?_
  refine go_aload_n (q := 1637) (gDec (iLw2_4_ok hs) 20 rfl) rfl rfl rfl ?_
  refine go_iload (q := 1639) (gDec (iLw2_4_ok hs) 21 rfl) rfl rfl ?_
  refine go_iconst (v := nI 1) (q := 1640) (gDec (iLw2_4_ok hs) 22 rfl) (by decide) rfl ?_
  refine go_iaddN (c := i + 1) (q := 1641) (gDec (iLw2_4_ok hs) 23 rfl) rfl rfl ?_
  refine go_sld (q := 1642) (gDec (iLw2_4_ok hs) 24 rfl) (vp_in_nI (by omega) (by omega)) rfl ?_
  refine go_top (v' := gX κ (i + 1)) (rfl) ?_
  refine go_aload_n (q := 1643) (gDec (iLw2_4_ok hs) 25 rfl) rfl rfl rfl ?_
  refine go_iload (q := 1645) (gDec (iLw2_4_ok hs) 26 rfl) rfl rfl ?_
  refine go_iconst (v := nI 2) (q := 1646) (gDec (iLw2_4_ok hs) 27 rfl) (by decide) rfl ?_
  refine go_iaddN (c := i + 2) (q := 1647) (gDec (iLw2_4_ok hs) 28 rfl) rfl rfl ?_
  refine go_sld (q := 1648) (gDec (iLw2_4_ok hs) 29 rfl) (vp_in_nI (by omega) (by omega)) rfl ?_
  refine go_top (v' := gX κ (i + 2)) (rfl) ?_
  refine go_callV (n2 := n + 1) (q := 1651) kL_216 c1 (gDec (iLw2_4_ok hs) 30 rfl) rfl rfl (by decide) rfl rfl rfl (Nat.le_of_ble_eq_true rfl) rfl (hR _ _ (by decide) (Nat.le_refl _)) rfl ?_
  refine go_istore (q := 1653) (gDec (iLw2_4_ok hs) 31 rfl) (Nat.le_of_ble_eq_true rfl) rfl ?_
  refine go_aload_n (q := 1654) (gDec (iLw2_4_ok hs) 32 rfl) rfl rfl rfl ?_
  refine go_callV (n2 := n + 1) (q := 1657) kL_157 (ctX11_thrown (κ := κ) (σ := s')) (gDec (iLw2_4_ok hs) 33 rfl) rfl rfl (by decide) rfl rfl rfl (Nat.le_of_ble_eq_true rfl) rfl (hR _ _ (by decide) (Nat.le_refl _)) rfl ?_
  refine go_top (v' := xC kO (fKern σ (gX κ (i + 1)) (gX κ (i + 2))).1) (c2) ?_
  refine go_iload (q := 1659) (gDec (iLw2_4_ok hs) 34 rfl) rfl rfl ?_
  refine go_icmp_eq (t := 1664) (q := 1662) (gDec (iLw2_4_ok hs) 35 rfl) (by decide) rfl (fun c1659 => ?_) (fun c1659 => False.elim (c1659 rfl))
  refine go_iload (q := 1666) (gDec (iLw2_4_ok hs) 38 rfl) rfl rfl ?_
  refine go_if_ne (t := 1681) (q := 1669) (gDec (iLw2_4_ok hs) 39 rfl) (by decide) rfl (fun c1666 => ?_) (fun c1666 => ?_)
  · refine go_goto (t := 2942) (gDec (iLw2_4_ok hs) 49 rfl) (by decide) ?_
    refine go_sub (L' := [(0, .ref κ.2.2.2.2.1), (1, .ref (κ.2.1 + 0)), (2, .ref (κ.2.1 + 376)), (3, .ref (κ.2.1 + 390)), (4, .ref (κ.2.1 + 391)), (5, .int (nI i))]) ⟨rfl, rfl, rfl, rfl, rfl, rfl, trivial⟩ ?_
    exact hk s' c4
  · obtain ⟨v, he⟩ := (r_kern (σ := σ) (a1 := (gX κ (i + 1))) (a2 := (gX κ (i + 2)))).resolve_right (fun h9 => h9 c1666)
    refine go_aload_n (q := 1670) (gDec (iLw2_4_ok hs) 40 rfl) rfl rfl rfl ?_
    refine go_iconst (v := 0) (q := 1671) (gDec (iLw2_4_ok hs) 41 rfl) (by decide) rfl ?_
    refine go_lald (q := 1672) (gDec (iLw2_4_ok hs) 42 rfl) rfl (by decide) vp_00 rfl ?_
    refine go_iload (q := 1674) (gDec (iLw2_4_ok hs) 43 rfl) rfl rfl ?_
    refine go_i2l (q := 1675) (gDec (iLw2_4_ok hs) 44 rfl) rfl ?_
    refine go_lcmp (q := 1676) (gDec (iLw2_4_ok hs) 45 rfl) rfl ?_
    refine go_top (v' := 0) ((lw_cmp he c3)) ?_
    refine go_if_eq (t := 1681) (q := 1679) (gDec (iLw2_4_ok hs) 46 rfl) (by decide) rfl (fun c1676 => ?_) (fun c1676 => False.elim (c1676 rfl))
    refine go_goto (t := 2942) (gDec (iLw2_4_ok hs) 49 rfl) (by decide) ?_
    refine go_sub (L' := [(0, .ref κ.2.2.2.2.1), (1, .ref (κ.2.1 + 0)), (2, .ref (κ.2.1 + 376)), (3, .ref (κ.2.1 + 390)), (4, .ref (κ.2.1 + 391)), (5, .int (nI i))]) ⟨rfl, rfl, rfl, rfl, rfl, rfl, trivial⟩ ?_
    exact hk s' c4

set_option maxHeartbeats 4000000 in
set_option maxRecDepth 100000 in
theorem lw_c18 {κ : gK} {hs : List (Nat × Nat × Nat × Nat)} {R : Room} {Z : gZ} {σ : gST} {n i : Nat} (h : gJ σ) (hi : i + 6 ≤ κ.2.2.2.2.2.1) (hL : κ.2.2.2.2.2.1 ≤ 3072) (hR : ∀ d m, d ≤ 10 → m ≤ n + 1 → gFit R d m) (hk : ∀ σ', gJ σ' → Go κ (mLw hs) R Z 2942 [(0, .ref κ.2.2.2.2.1), (1, .ref (κ.2.1 + 0)), (2, .ref (κ.2.1 + 376)), (3, .ref (κ.2.1 + 390)), (4, .ref (κ.2.1 + 391)), (5, .int (nI i))] [] σ' (n + 1)) : Go κ (mLw hs) R Z 1684 [(0, .ref κ.2.2.2.2.1), (1, .ref (κ.2.1 + 0)), (2, .ref (κ.2.1 + 376)), (3, .ref (κ.2.1 + 390)), (4, .ref (κ.2.1 + 391)), (5, .int (nI i))] [] σ n := by
  obtain ⟨s', c1, c2, c3, c4⟩ := j_why (κ := κ) (σ := σ) (a1 := (gX κ (i + 1))) (a2 := (gX κ (i + 2))) h
  refine go_aload_n (q := 1685) (gDec (iLw2_4_ok hs) 50 rfl) rfl rfl rfl ?_
  refine go_aload_n (q := 1686) (gDec (iLw2_4_ok hs) 51 rfl) rfl rfl rfl ?_
  refine go_iload (q := 1688) (gDec (iLw2_4_ok hs) 52 rfl) rfl rfl ?_
  refine go_iconst (v := nI 1) (q := 1689) (gDec (iLw2_4_ok hs) 53 rfl) (by decide) rfl ?_
  refine go_iaddN (c := i + 1) (q := 1690) (gDec (iLw2_4_ok hs) 54 rfl) rfl rfl ?_
  refine go_sld (q := 1691) (gDec (iLw2_4_ok hs) 55 rfl) (vp_in_nI (by omega) (by omega)) rfl ?_
  refine go_top (v' := gX κ (i + 1)) (rfl) ?_
  refine go_aload_n (q := 1692) (gDec (iLw2_4_ok hs) 56 rfl) rfl rfl rfl ?_
  refine go_iload (q := 1694) (gDec (iLw2_4_ok hs) 57 rfl) rfl rfl ?_
  refine go_iconst (v := nI 2) (q := 1695) (gDec (iLw2_4_ok hs) 58 rfl) (by decide) rfl ?_
  refine go_iaddN (c := i + 2) (q := 1696) (gDec (iLw2_4_ok hs) 59 rfl) rfl rfl ?_
  refine go_sld (q := 1697) (gDec (iLw2_5_ok hs) 0 rfl) (vp_in_nI (by omega) (by omega)) rfl ?_
  refine go_top (v' := gX κ (i + 2)) (rfl) ?_
  refine go_aload_n (q := 1698) (gDec (iLw2_5_ok hs) 1 rfl) rfl rfl rfl ?_
  refine go_callH (n2 := n + 1) (q := 1701) kL_217 rfl (ctL_why (κ := κ) (σ := σ) (a1 := (gX κ (i + 1))) (a2 := (gX κ (i + 2))) h) (gDec (iLw2_5_ok hs) 2 rfl) rfl rfl (Nat.le_of_ble_eq_true rfl) rfl (hR _ _ (by decide) (Nat.le_refl _)) rfl ?_
  refine go_istore (q := 1703) (gDec (iLw2_5_ok hs) 3 rfl) (Nat.le_of_ble_eq_true rfl) rfl ?_
  refine go_aload_n (q := 1704) (gDec (iLw2_5_ok hs) 4 rfl) rfl rfl rfl ?_
  refine go_aload_n (q := 1705) (gDec (iLw2_5_ok hs) 5 rfl) rfl rfl rfl ?_
  refine go_iload (q := 1707) (gDec (iLw2_5_ok hs) 6 rfl) rfl rfl ?_
  refine go_iconst (v := nI 1) (q := 1708) (gDec (iLw2_5_ok hs) 7 rfl) (by decide) rfl ?_
  refine go_iaddN (c := i + 1) (q := 1709) (gDec (iLw2_5_ok hs) 8 rfl) rfl rfl ?_
  refine go_sld (q := 1710) (gDec (iLw2_5_ok hs) 9 rfl) (vp_in_nI (by omega) (by omega)) rfl ?_
  refine go_top (v' := gX κ (i + 1)) (rfl) ?_
  refine go_aload_n (q := 1711) (gDec (iLw2_5_ok hs) 10 rfl) rfl rfl rfl ?_
  refine go_iload (q := 1713) (gDec (iLw2_5_ok hs) 11 rfl) rfl rfl ?_
  refine go_iconst (v := nI 2) (q := 1714) (gDec (iLw2_5_ok hs) 12 rfl) (by decide) rfl ?_
  refine go_iaddN (c := i + 2) (q := 1715) (gDec (iLw2_5_ok hs) 13 rfl) rfl rfl ?_
  refine go_sld (q := 1716) (gDec (iLw2_5_ok hs) 14 rfl) (vp_in_nI (by omega) (by omega)) rfl ?_
  refine go_top (v' := gX κ (i + 2)) (rfl) ?_
  refine go_callV (n2 := n + 1) (q := 1719) kL_219 c1 (gDec (iLw2_5_ok hs) 15 rfl) rfl rfl (by decide) rfl rfl rfl (Nat.le_of_ble_eq_true rfl) rfl (hR _ _ (by decide) (Nat.le_refl _)) rfl ?_
  refine go_istore (q := 1721) (gDec (iLw2_5_ok hs) 16 rfl) (Nat.le_of_ble_eq_true rfl) rfl ?_
  refine go_aload_n (q := 1722) (gDec (iLw2_5_ok hs) 17 rfl) rfl rfl rfl ?_
  refine go_callV (n2 := n + 1) (q := 1725) kL_157 (ctX11_thrown (κ := κ) (σ := s')) (gDec (iLw2_5_ok hs) 18 rfl) rfl rfl (by decide) rfl rfl rfl (Nat.le_of_ble_eq_true rfl) rfl (hR _ _ (by decide) (Nat.le_refl _)) rfl ?_
  refine go_top (v' := xC kO (fWhy σ (gX κ (i + 1)) (gX κ (i + 2))).1) (c2) ?_
  refine go_iload (q := 1727) (gDec (iLw2_5_ok hs) 19 rfl) rfl rfl ?_
  refine go_icmp_eq (t := 1732) (q := 1730) (gDec (iLw2_5_ok hs) 20 rfl) (by decide) rfl (fun c1727 => ?_) (fun c1727 => False.elim (c1727 rfl))
  refine go_iload (q := 1734) (gDec (iLw2_5_ok hs) 23 rfl) rfl rfl ?_
  refine go_if_ne (t := 1749) (q := 1737) (gDec (iLw2_5_ok hs) 24 rfl) (by decide) rfl (fun c1734 => ?_) (fun c1734 => ?_)
  · refine go_goto (t := 2942) (gDec (iLw2_5_ok hs) 34 rfl) (by decide) ?_
    refine go_sub (L' := [(0, .ref κ.2.2.2.2.1), (1, .ref (κ.2.1 + 0)), (2, .ref (κ.2.1 + 376)), (3, .ref (κ.2.1 + 390)), (4, .ref (κ.2.1 + 391)), (5, .int (nI i))]) ⟨rfl, rfl, rfl, rfl, rfl, rfl, trivial⟩ ?_
    exact hk s' c4
  · obtain ⟨v, he⟩ := (r_why (σ := σ) (a1 := (gX κ (i + 1))) (a2 := (gX κ (i + 2)))).resolve_right (fun h9 => h9 c1734)
    refine go_aload_n (q := 1738) (gDec (iLw2_5_ok hs) 25 rfl) rfl rfl rfl ?_
    refine go_iconst (v := 0) (q := 1739) (gDec (iLw2_5_ok hs) 26 rfl) (by decide) rfl ?_
    refine go_lald (q := 1740) (gDec (iLw2_5_ok hs) 27 rfl) rfl (by decide) vp_00 rfl ?_
    refine go_iload (q := 1742) (gDec (iLw2_5_ok hs) 28 rfl) rfl rfl ?_
    refine go_i2l (q := 1743) (gDec (iLw2_5_ok hs) 29 rfl) rfl ?_
    refine go_lcmp (q := 1744) (gDec (iLw2_5_ok hs) 30 rfl) rfl ?_
    refine go_top (v' := 0) ((lw_cmp he c3)) ?_
    refine go_if_eq (t := 1749) (q := 1747) (gDec (iLw2_5_ok hs) 31 rfl) (by decide) rfl (fun c1744 => ?_) (fun c1744 => False.elim (c1744 rfl))
    refine go_goto (t := 2942) (gDec (iLw2_5_ok hs) 34 rfl) (by decide) ?_
    refine go_sub (L' := [(0, .ref κ.2.2.2.2.1), (1, .ref (κ.2.1 + 0)), (2, .ref (κ.2.1 + 376)), (3, .ref (κ.2.1 + 390)), (4, .ref (κ.2.1 + 391)), (5, .int (nI i))]) ⟨rfl, rfl, rfl, rfl, rfl, rfl, trivial⟩ ?_
    exact hk s' c4

set_option maxHeartbeats 4000000 in
set_option maxRecDepth 100000 in
theorem lw_c19 {κ : gK} {hs : List (Nat × Nat × Nat × Nat)} {R : Room} {Z : gZ} {σ : gST} {n i : Nat} (h : gJ σ) (hi : i + 6 ≤ κ.2.2.2.2.2.1) (hL : κ.2.2.2.2.2.1 ≤ 3072) (hR : ∀ d m, d ≤ 10 → m ≤ n + 1 → gFit R d m) (hk : ∀ σ', gJ σ' → Go κ (mLw hs) R Z 2942 [(0, .ref κ.2.2.2.2.1), (1, .ref (κ.2.1 + 0)), (2, .ref (κ.2.1 + 376)), (3, .ref (κ.2.1 + 390)), (4, .ref (κ.2.1 + 391)), (5, .int (nI i))] [] σ' (n + 1)) : Go κ (mLw hs) R Z 1752 [(0, .ref κ.2.2.2.2.1), (1, .ref (κ.2.1 + 0)), (2, .ref (κ.2.1 + 376)), (3, .ref (κ.2.1 + 390)), (4, .ref (κ.2.1 + 391)), (5, .int (nI i))] [] σ n := by
  obtain ⟨s', c1, c2, c3, c4⟩ := j_addStem (κ := κ) (σ := σ) (a1 := (gX κ (i + 1))) (a2 := (gX κ (i + 2))) (a3 := (gX κ (i + 3))) h
  refine go_aload_n (q := 1753) (gDec (iLw2_5_ok hs) 35 rfl) rfl rfl rfl ?_
  refine go_aload_n (q := 1754) (gDec (iLw2_5_ok hs) 36 rfl) rfl rfl rfl ?_
  refine go_iload (q := 1756) (gDec (iLw2_5_ok hs) 37 rfl) rfl rfl ?_
  refine go_iconst (v := nI 1) (q := 1757) (gDec (iLw2_5_ok hs) 38 rfl) (by decide) rfl ?_
  refine go_iaddN (c := i + 1) (q := 1758) (gDec (iLw2_5_ok hs) 39 rfl) rfl rfl ?_
  refine go_sld (q := 1759) (gDec (iLw2_5_ok hs) 40 rfl) (vp_in_nI (by omega) (by omega)) rfl ?_
  refine go_top (v' := gX κ (i + 1)) (rfl) ?_
  refine go_aload_n (q := 1760) (gDec (iLw2_5_ok hs) 41 rfl) rfl rfl rfl ?_
  refine go_iload (q := 1762) (gDec (iLw2_5_ok hs) 42 rfl) rfl rfl ?_
  refine go_iconst (v := nI 2) (q := 1763) (gDec (iLw2_5_ok hs) 43 rfl) (by decide) rfl ?_
  refine go_iaddN (c := i + 2) (q := 1764) (gDec (iLw2_5_ok hs) 44 rfl) rfl rfl ?_
  refine go_sld (q := 1765) (gDec (iLw2_5_ok hs) 45 rfl) (vp_in_nI (by omega) (by omega)) rfl ?_
  refine go_top (v' := gX κ (i + 2)) (rfl) ?_
  refine go_aload_n (q := 1766) (gDec (iLw2_5_ok hs) 46 rfl) rfl rfl rfl ?_
  refine go_iload (q := 1768) (gDec (iLw2_5_ok hs) 47 rfl) rfl rfl ?_
  refine go_iconst (v := nI 3) (q := 1769) (gDec (iLw2_5_ok hs) 48 rfl) (by decide) rfl ?_
  refine go_iaddN (c := i + 3) (q := 1770) (gDec (iLw2_5_ok hs) 49 rfl) rfl rfl ?_
  refine go_sld (q := 1771) (gDec (iLw2_5_ok hs) 50 rfl) (vp_in_nI (by omega) (by omega)) rfl ?_
  refine go_top (v' := gX κ (i + 3)) (rfl) ?_
  refine go_aload_n (q := 1772) (gDec (iLw2_5_ok hs) 51 rfl) rfl rfl rfl ?_
  refine go_callH (n2 := n + 1) (q := 1775) kL_220 rfl (ctL_addStem (κ := κ) (σ := σ) (a1 := (gX κ (i + 1))) (a2 := (gX κ (i + 2))) (a3 := (gX κ (i + 3))) h) (gDec (iLw2_5_ok hs) 52 rfl) rfl rfl (Nat.le_of_ble_eq_true rfl) rfl (hR _ _ (by decide) (Nat.le_refl _)) rfl ?_
  refine go_istore (q := 1777) (gDec (iLw2_5_ok hs) 53 rfl) (Nat.le_of_ble_eq_true rfl) rfl ?_
  refine go_aload_n (q := 1778) (gDec (iLw2_5_ok hs) 54 rfl) rfl rfl rfl ?_
  refine go_aload_n (q := 1779) (gDec (iLw2_5_ok hs) 55 rfl) rfl rfl rfl ?_
  refine go_iload (q := 1781) (gDec (iLw2_5_ok hs) 56 rfl) rfl rfl ?_
  refine go_iconst (v := nI 1) (q := 1782) (gDec (iLw2_5_ok hs) 57 rfl) (by decide) rfl ?_
  refine go_iaddN (c := i + 1) (q := 1783) (gDec (iLw2_5_ok hs) 58 rfl) rfl rfl ?_
  refine go_sld (q := 1784) (gDec (iLw2_5_ok hs) 59 rfl) (vp_in_nI (by omega) (by omega)) rfl ?_
  refine go_top (v' := gX κ (i + 1)) (rfl) ?_
  refine go_aload_n (q := 1785) (gDec (iLw2_6_ok hs) 0 rfl) rfl rfl rfl ?_
  refine go_iload (q := 1787) (gDec (iLw2_6_ok hs) 1 rfl) rfl rfl ?_
  refine go_iconst (v := nI 2) (q := 1788) (gDec (iLw2_6_ok hs) 2 rfl) (by decide) rfl ?_
  refine go_iaddN (c := i + 2) (q := 1789) (gDec (iLw2_6_ok hs) 3 rfl) rfl rfl ?_
  refine go_sld (q := 1790) (gDec (iLw2_6_ok hs) 4 rfl) (vp_in_nI (by omega) (by omega)) rfl ?_
  refine go_top (v' := gX κ (i + 2)) (rfl) ?_
  refine go_aload_n (q := 1791) (gDec (iLw2_6_ok hs) 5 rfl) rfl rfl rfl ?_
  refine go_iload (q := 1793) (gDec (iLw3_0_ok hs) 0 rfl) rfl rfl ?_
  refine go_iconst (v := nI 3) (q := 1794) (gDec (iLw3_0_ok hs) 1 rfl) (by decide) rfl ?_
  refine go_iaddN (c := i + 3) (q := 1795) (gDec (iLw3_0_ok hs) 2 rfl) rfl rfl ?_
  refine go_sld (q := 1796) (gDec (iLw3_0_ok hs) 3 rfl) (vp_in_nI (by omega) (by omega)) rfl ?_
  refine go_top (v' := gX κ (i + 3)) (rfl) ?_
  refine go_callV (n2 := n + 1) (q := 1799) kL_222 c1 (gDec (iLw3_0_ok hs) 4 rfl) rfl rfl (by decide) rfl rfl rfl (Nat.le_of_ble_eq_true rfl) rfl (hR _ _ (by decide) (Nat.le_refl _)) rfl ?_
  refine go_istore (q := 1801) (gDec (iLw3_0_ok hs) 5 rfl) (Nat.le_of_ble_eq_true rfl) rfl ?_
  refine go_aload_n (q := 1802) (gDec (iLw3_0_ok hs) 6 rfl) rfl rfl rfl ?_
  refine go_callV (n2 := n + 1) (q := 1805) kL_157 (ctX11_thrown (κ := κ) (σ := s')) (gDec (iLw3_0_ok hs) 7 rfl) rfl rfl (by decide) rfl rfl rfl (Nat.le_of_ble_eq_true rfl) rfl (hR _ _ (by decide) (Nat.le_refl _)) rfl ?_
  refine go_top (v' := xC kOAS (fAddStem σ (gX κ (i + 1)) (gX κ (i + 2)) (gX κ (i + 3))).1) (c2) ?_
  refine go_iload (q := 1807) (gDec (iLw3_0_ok hs) 8 rfl) rfl rfl ?_
  refine go_icmp_eq (t := 1812) (q := 1810) (gDec (iLw3_0_ok hs) 9 rfl) (by decide) rfl (fun c1807 => ?_) (fun c1807 => False.elim (c1807 rfl))
  refine go_iload (q := 1814) (gDec (iLw3_0_ok hs) 12 rfl) rfl rfl ?_
  refine go_if_ne (t := 1829) (q := 1817) (gDec (iLw3_0_ok hs) 13 rfl) (by decide) rfl (fun c1814 => ?_) (fun c1814 => ?_)
  · refine go_goto (t := 2942) (gDec (iLw3_0_ok hs) 23 rfl) (by decide) ?_
    refine go_sub (L' := [(0, .ref κ.2.2.2.2.1), (1, .ref (κ.2.1 + 0)), (2, .ref (κ.2.1 + 376)), (3, .ref (κ.2.1 + 390)), (4, .ref (κ.2.1 + 391)), (5, .int (nI i))]) ⟨rfl, rfl, rfl, rfl, rfl, rfl, trivial⟩ ?_
    exact hk s' c4
  · obtain ⟨v, he⟩ := (r_addStem (σ := σ) (a1 := (gX κ (i + 1))) (a2 := (gX κ (i + 2))) (a3 := (gX κ (i + 3)))).resolve_right (fun h9 => h9 c1814)
    refine go_aload_n (q := 1818) (gDec (iLw3_0_ok hs) 14 rfl) rfl rfl rfl ?_
    refine go_iconst (v := 0) (q := 1819) (gDec (iLw3_0_ok hs) 15 rfl) (by decide) rfl ?_
    refine go_lald (q := 1820) (gDec (iLw3_0_ok hs) 16 rfl) rfl (by decide) vp_00 rfl ?_
    refine go_iload (q := 1822) (gDec (iLw3_0_ok hs) 17 rfl) rfl rfl ?_
    refine go_i2l (q := 1823) (gDec (iLw3_0_ok hs) 18 rfl) rfl ?_
    refine go_lcmp (q := 1824) (gDec (iLw3_0_ok hs) 19 rfl) rfl ?_
    refine go_top (v' := 0) ((lw_cmp he c3)) ?_
    refine go_if_eq (t := 1829) (q := 1827) (gDec (iLw3_0_ok hs) 20 rfl) (by decide) rfl (fun c1824 => ?_) (fun c1824 => False.elim (c1824 rfl))
    refine go_goto (t := 2942) (gDec (iLw3_0_ok hs) 23 rfl) (by decide) ?_
    refine go_sub (L' := [(0, .ref κ.2.2.2.2.1), (1, .ref (κ.2.1 + 0)), (2, .ref (κ.2.1 + 376)), (3, .ref (κ.2.1 + 390)), (4, .ref (κ.2.1 + 391)), (5, .int (nI i))]) ⟨rfl, rfl, rfl, rfl, rfl, rfl, trivial⟩ ?_
    exact hk s' c4
