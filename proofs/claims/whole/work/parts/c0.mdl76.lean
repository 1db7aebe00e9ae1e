set_option maxHeartbeats 4000000 in
set_option maxRecDepth 100000 in
theorem lw_c36 {κ : gK} {hs : List (Nat × Nat × Nat × Nat)} {R : Room} {Z : gZ} {σ : gST} {n i : Nat} (h : gJ σ) (hi : i + 6 ≤ κ.2.2.2.2.2.1) (hL : κ.2.2.2.2.2.1 ≤ 3072) (hR : ∀ d m, d ≤ 10 → m ≤ n + 1 → gFit R d m) (hk : ∀ σ', gJ σ' → Go κ (mLw hs) R Z 2942 [(0, .ref κ.2.2.2.2.1), (1, .ref (κ.2.1 + 0)), (2, .ref (κ.2.1 + 376)), (3, .ref (κ.2.1 + 390)), (4, .ref (κ.2.1 + 391)), (5, .int (nI i))] [] σ' (n + 1)) : Go κ (mLw hs) R Z 2850 [(0, .ref κ.2.2.2.2.1), (1, .ref (κ.2.1 + 0)), (2, .ref (κ.2.1 + 376)), (3, .ref (κ.2.1 + 390)), (4, .ref (κ.2.1 + 391)), (5, .int (nI i))] [] σ n := by
  obtain ⟨c1, c2⟩ := j_fault (κ := κ) h
  refine go_aload_n (q := 2851) (gDec (iLw4_5_ok hs) 9 rfl) rfl rfl rfl ?_
  refine go_callV (n2 := n + 1) (q := 2854) kL_276 (show gCt κ mX10_faultPosition 9 [.ref (κ.2.1 + 0)] σ (rI (σ.1 0 7)) σ 1 from ctX10_faultPosition) (gDec (iLw4_5_ok hs) 10 rfl) rfl rfl (by decide) rfl rfl rfl (Nat.le_of_ble_eq_true rfl) rfl (hR _ _ (by decide) (Nat.le_refl _)) rfl ?_
  refine go_aload_n (q := 2855) (gDec (iLw4_5_ok hs) 11 rfl) rfl rfl rfl ?_
  refine go_callV (n2 := n + 1) (q := 2858) kL_279 c1 (gDec (iLw4_5_ok hs) 12 rfl) rfl rfl (by decide) rfl rfl rfl (Nat.le_of_ble_eq_true rfl) rfl (hR _ _ (by decide) (Nat.le_refl _)) rfl ?_
  refine go_icmp_eq (t := 2942) (q := 2861) (gDec (iLw4_5_ok hs) 13 rfl) (by decide) rfl (fun c => ?_) (fun c => False.elim (c rfl))
  exact hk _ c2

set_option maxHeartbeats 4000000 in
set_option maxRecDepth 100000 in
theorem lw_c38 {κ : gK} {hs : List (Nat × Nat × Nat × Nat)} {R : Room} {Z : gZ} {σ : gST} {n i : Nat} (h : gJ σ) (hi : i + 6 ≤ κ.2.2.2.2.2.1) (hL : κ.2.2.2.2.2.1 ≤ 3072) (hR : ∀ d m, d ≤ 10 → m ≤ n + 1 → gFit R d m) (hk : ∀ σ', gJ σ' → Go κ (mLw hs) R Z 2942 [(0, .ref κ.2.2.2.2.1), (1, .ref (κ.2.1 + 0)), (2, .ref (κ.2.1 + 376)), (3, .ref (κ.2.1 + 390)), (4, .ref (κ.2.1 + 391)), (5, .int (nI i))] [] σ' (n + 1)) : Go κ (mLw hs) R Z 2907 [(0, .ref κ.2.2.2.2.1), (1, .ref (κ.2.1 + 0)), (2, .ref (κ.2.1 + 376)), (3, .ref (κ.2.1 + 390)), (4, .ref (κ.2.1 + 391)), (5, .int (nI i))] [] σ n := by
  obtain ⟨s', c1, c2, c3, c4⟩ := j_save (κ := κ) h
  refine go_aload_n (q := 2908) (gDec (iLw4_5_ok hs) 41 rfl) rfl rfl rfl ?_
  refine go_callV (n2 := n + 1) (q := 2911) kL_283 (show gCt κ mX10_save 9 [.ref (κ.2.1 + 0)] σ (.inl none) (gOo (fSave σ)) 1 from ctX10_save) (gDec (iLw4_5_ok hs) 42 rfl) rfl rfl (by decide) rfl rfl rfl (Nat.le_of_ble_eq_true rfl) rfl (hR _ _ (by decide) (Nat.le_refl _)) rfl ?_
  refine go_aload_n (q := 2912) (gDec (iLw4_5_ok hs) 43 rfl) rfl rfl rfl ?_
  refine go_callV (n2 := n + 1) (q := 2915) kL_286 c1 (gDec (iLw4_5_ok hs) 44 rfl) rfl rfl (by decide) rfl rfl rfl (Nat.le_of_ble_eq_true rfl) rfl (hR _ _ (by decide) (Nat.le_refl _)) rfl ?_
  refine go_goto (t := 2942) (gDec (iLw4_5_ok hs) 45 rfl) (by decide) ?_
  exact hk _ c4

theorem lw_tail {j : Nat} (h : 40 ≤ j) (h2 : j < 64) : (39 : Int) < (nI j).toInt := by
  rw [nI_toInt (by omega)]
  omega
set_option maxHeartbeats 4000000 in
set_option maxRecDepth 100000 in
theorem lw_sw {κ : gK} {hs : List (Nat × Nat × Nat × Nat)} {R : Room} {Z : gZ} {σ : gST} {n i : Nat} {j : Nat} (h : gJ σ) (hi : i + 6 ≤ κ.2.2.2.2.2.1) (hL : κ.2.2.2.2.2.1 ≤ 3072) (hR : ∀ d m, d ≤ 10 → m ≤ n + 1 → gFit R d m) (hj : j < 64) (hk : ∀ σ' n', n' ≤ n + 1 → gJ σ' → Go κ (mLw hs) R Z 2942 [(0, .ref κ.2.2.2.2.1), (1, .ref (κ.2.1 + 0)), (2, .ref (κ.2.1 + 376)), (3, .ref (κ.2.1 + 390)), (4, .ref (κ.2.1 + 391)), (5, .int (nI i))] [] σ' n') : Go κ (mLw hs) R Z 45 [(0, .ref κ.2.2.2.2.1), (1, .ref (κ.2.1 + 0)), (2, .ref (κ.2.1 + 376)), (3, .ref (κ.2.1 + 390)), (4, .ref (κ.2.1 + 391)), (5, .int (nI i))] [.int (nI j)] σ n := by
  rcases (by omega : j = 0 ∨ j = 1 ∨ j = 2 ∨ j = 3 ∨ j = 4 ∨ j = 5 ∨ j = 6 ∨ j = 7 ∨ j = 8 ∨ j = 9 ∨ j = 10 ∨ j = 11 ∨ j = 12 ∨ j = 13 ∨ j = 14 ∨ j = 15 ∨ j = 16 ∨ j = 17 ∨ j = 18 ∨ j = 19 ∨ j = 20 ∨ j = 21 ∨ j = 22 ∨ j = 23 ∨ j = 24 ∨ j = 25 ∨ j = 26 ∨ j = 27 ∨ j = 28 ∨ j = 29 ∨ j = 30 ∨ j = 31 ∨ j = 32 ∨ j = 33 ∨ j = 34 ∨ j = 35 ∨ j = 36 ∨ j = 37 ∨ j = 38 ∨ j = 39 ∨ 40 ≤ j) with rfl | rfl | rfl | rfl | rfl | rfl | rfl | rfl | rfl | rfl | rfl | rfl | rfl | rfl | rfl | rfl | rfl | rfl | rfl | rfl | rfl | rfl | rfl | rfl | rfl | rfl | rfl | rfl | rfl | rfl | rfl | rfl | rfl | rfl | rfl | rfl | rfl | rfl | rfl | rfl | hj
  · exact go_tableIn (off := 175) (t := 220) (gDec (iLw0_0_ok hs) 27 rfl) (by decide) (by decide) rfl (by decide) (lw_c0 h hi hL hR (fun σ' g => hk σ' (n + 1) (Nat.le_refl _) g))
  · exact go_tableIn (off := 231) (t := 276) (gDec (iLw0_0_ok hs) 27 rfl) (by decide) (by decide) rfl (by decide) (lw_c1 h hi hL hR (fun σ' g => hk σ' (n + 1) (Nat.le_refl _) g))
  · exact go_tableIn (off := 335) (t := 380) (gDec (iLw0_0_ok hs) 27 rfl) (by decide) (by decide) rfl (by decide) (lw_c2 h hi hL hR (fun σ' g => hk σ' (n + 1) (Nat.le_refl _) g))
  · exact go_tableIn (off := 439) (t := 484) (gDec (iLw0_0_ok hs) 27 rfl) (by decide) (by decide) rfl (by decide) (lw_c3 h hi hL hR (fun σ' g => hk σ' (n + 1) (Nat.le_refl _) g))
  · exact go_tableIn (off := 519) (t := 564) (gDec (iLw0_0_ok hs) 27 rfl) (by decide) (by decide) rfl (by decide) (lw_c4 h hi hL hR (fun σ' g => hk σ' (n + 1) (Nat.le_refl _) g))
  · exact go_tableIn (off := 587) (t := 632) (gDec (iLw0_0_ok hs) 27 rfl) (by decide) (by decide) rfl (by decide) (lw_c5 h hi hL hR (fun σ' g => hk σ' (n + 1) (Nat.le_refl _) g))
  · exact go_tableIn (off := 643) (t := 688) (gDec (iLw0_0_ok hs) 27 rfl) (by decide) (by decide) rfl (by decide) (lw_c6 h hi hL hR (fun σ' g => hk σ' (n + 1) (Nat.le_refl _) g))
  · exact go_tableIn (off := 711) (t := 756) (gDec (iLw0_0_ok hs) 27 rfl) (by decide) (by decide) rfl (by decide) (lw_c7 h hi hL hR (fun σ' g => hk σ' (n + 1) (Nat.le_refl _) g))
  · exact go_tableIn (off := 819) (t := 864) (gDec (iLw0_0_ok hs) 27 rfl) (by decide) (by decide) rfl (by decide) (lw_c8 h hi hL hR (fun σ' g => hk σ' (n + 1) (Nat.le_refl _) g))
  · exact go_tableIn (off := 887) (t := 932) (gDec (iLw0_0_ok hs) 27 rfl) (by decide) (by decide) rfl (by decide) (lw_c9 h hi hL hR (fun σ' g => hk σ' (n + 1) (Nat.le_refl _) g))
  · exact go_tableIn (off := 967) (t := 1012) (gDec (iLw0_0_ok hs) 27 rfl) (by decide) (by decide) rfl (by decide) (lw_c10 h hi hL hR (fun σ' g => hk σ' (n + 1) (Nat.le_refl _) g))
  · exact go_tableIn (off := 1071) (t := 1116) (gDec (iLw0_0_ok hs) 27 rfl) (by decide) (by decide) rfl (by decide) (lw_c11 h hi hL hR (fun σ' g => hk σ' (n + 1) (Nat.le_refl _) g))
  · exact go_tableIn (off := 1151) (t := 1196) (gDec (iLw0_0_ok hs) 27 rfl) (by decide) (by decide) rfl (by decide) (lw_c12 h hi hL hR (fun σ' g => hk σ' (n + 1) (Nat.le_refl _) g))
  · exact go_tableIn (off := 1219) (t := 1264) (gDec (iLw0_0_ok hs) 27 rfl) (by decide) (by decide) rfl (by decide) (lw_c13 h hi hL hR (fun σ' g => hk σ' (n + 1) (Nat.le_refl _) g))
  · exact go_tableIn (off := 1315) (t := 1360) (gDec (iLw0_0_ok hs) 27 rfl) (by decide) (by decide) rfl (by decide) (lw_c14 h hi hL hR (fun σ' g => hk σ' (n + 1) (Nat.le_refl _) g))
  · exact go_tableIn (off := 1395) (t := 1440) (gDec (iLw0_0_ok hs) 27 rfl) (by decide) (by decide) rfl (by decide) (lw_c15 h hi hL hR (fun σ' g => hk σ' (n + 1) (Nat.le_refl _) g))
  · exact go_tableIn (off := 1475) (t := 1520) (gDec (iLw0_0_ok hs) 27 rfl) (by decide) (by decide) rfl (by decide) (lw_c16 h hi hL hR (fun σ' g => hk σ' (n + 1) (Nat.le_refl _) g))
  · exact go_tableIn (off := 1571) (t := 1616) (gDec (iLw0_0_ok hs) 27 rfl) (by decide) (by decide) rfl (by decide) (lw_c17 h hi hL hR (fun σ' g => hk σ' (n + 1) (Nat.le_refl _) g))
  · exact go_tableIn (off := 1639) (t := 1684) (gDec (iLw0_0_ok hs) 27 rfl) (by decide) (by decide) rfl (by decide) (lw_c18 h hi hL hR (fun σ' g => hk σ' (n + 1) (Nat.le_refl _) g))
  · exact go_tableIn (off := 1707) (t := 1752) (gDec (iLw0_0_ok hs) 27 rfl) (by decide) (by decide) rfl (by decide) (lw_c19 h hi hL hR (fun σ' g => hk σ' (n + 1) (Nat.le_refl _) g))
  · exact go_tableIn (off := 1787) (t := 1832) (gDec (iLw0_0_ok hs) 27 rfl) (by decide) (by decide) rfl (by decide) (lw_c20 h hi hL hR (fun σ' g => hk σ' (n + 1) (Nat.le_refl _) g))
  · exact go_tableIn (off := 1855) (t := 1900) (gDec (iLw0_0_ok hs) 27 rfl) (by decide) (by decide) rfl (by decide) (lw_c21 h hi hL hR (fun σ' g => hk σ' (n + 1) (Nat.le_refl _) g))
  · exact go_tableIn (off := 1951) (t := 1996) (gDec (iLw0_0_ok hs) 27 rfl) (by decide) (by decide) rfl (by decide) (lw_c22 h hi hL hR (fun σ' g => hk σ' (n + 1) (Nat.le_refl _) g))
  · exact go_tableIn (off := 2031) (t := 2076) (gDec (iLw0_0_ok hs) 27 rfl) (by decide) (by decide) rfl (by decide) (lw_c23 h hi hL hR (fun σ' g => hk σ' (n + 1) (Nat.le_refl _) g))
  · exact go_tableIn (off := 2130) (t := 2175) (gDec (iLw0_0_ok hs) 27 rfl) (by decide) (by decide) rfl (by decide) (lw_c24 h hi hL hR (fun σ' g => hk σ' (n + 1) (Nat.le_refl _) g))
  · exact go_tableIn (off := 2198) (t := 2243) (gDec (iLw0_0_ok hs) 27 rfl) (by decide) (by decide) rfl (by decide) (lw_c25 h hi hL hR (fun σ' g => hk σ' (n + 1) (Nat.le_refl _) g))
  · exact go_tableIn (off := 2266) (t := 2311) (gDec (iLw0_0_ok hs) 27 rfl) (by decide) (by decide) rfl (by decide) (lw_c26 h hi hL hR (fun σ' g => hk σ' (n + 1) (Nat.le_refl _) g))
  · exact go_tableIn (off := 2304) (t := 2349) (gDec (iLw0_0_ok hs) 27 rfl) (by decide) (by decide) rfl (by decide) (lw_c27 h hi hL hR (fun σ' g => hk σ' (n + 1) (Nat.le_refl _) g))
  · exact go_tableIn (off := 2348) (t := 2393) (gDec (iLw0_0_ok hs) 27 rfl) (by decide) (by decide) rfl (by decide) (lw_c28 h hi hL hR (fun σ' g => hk σ' (n + 1) (Nat.le_refl _) g))
  · exact go_tableIn (off := 2392) (t := 2437) (gDec (iLw0_0_ok hs) 27 rfl) (by decide) (by decide) rfl (by decide) (lw_c29 h hi hL hR (fun σ' g => hk σ' (n + 1) (Nat.le_refl _) g))
  · exact go_tableIn (off := 2448) (t := 2493) (gDec (iLw0_0_ok hs) 27 rfl) (by decide) (by decide) rfl (by decide) (lw_c30 h hi hL hR (fun σ' g => hk σ' (n + 1) (Nat.le_refl _) g))
  · exact go_tableIn (off := 2504) (t := 2549) (gDec (iLw0_0_ok hs) 27 rfl) (by decide) (by decide) rfl (by decide) (lw_c31 h hi hL hR (fun σ' g => hk σ' (n + 1) (Nat.le_refl _) g))
  · exact go_tableIn (off := 2584) (t := 2629) (gDec (iLw0_0_ok hs) 27 rfl) (by decide) (by decide) rfl (by decide) (lw_c32 h hi hL hR (fun σ' g => hk σ' (n + 1) (Nat.le_refl _) g))
  · exact go_tableIn (off := 2640) (t := 2685) (gDec (iLw0_0_ok hs) 27 rfl) (by decide) (by decide) rfl (by decide) (lw_c33 h hi hL hR (fun σ' g => hk σ' (n + 1) (Nat.le_refl _) g))
  · exact go_tableIn (off := 2705) (t := 2750) (gDec (iLw0_0_ok hs) 27 rfl) (by decide) (by decide) rfl (by decide) (lw_c34 h hi hL hR (fun σ' g => hk σ' (n + 1) (Nat.le_refl _) g))
  · exact go_tableIn (off := 2761) (t := 2806) (gDec (iLw0_0_ok hs) 27 rfl) (by decide) (by decide) rfl (by decide) (lw_c35 h hi hL hR (fun σ' g => hk σ' (n + 1) (Nat.le_refl _) g))
  · exact go_tableIn (off := 2805) (t := 2850) (gDec (iLw0_0_ok hs) 27 rfl) (by decide) (by decide) rfl (by decide) (lw_c36 h hi hL hR (fun σ' g => hk σ' (n + 1) (Nat.le_refl _) g))
  · exact go_tableIn (off := 2818) (t := 2863) (gDec (iLw0_0_ok hs) 27 rfl) (by decide) (by decide) rfl (by decide) (lw_c37 h hi hL hR (fun σ' g => hk σ' (n + 1) (Nat.le_refl _) g))
  · exact go_tableIn (off := 2862) (t := 2907) (gDec (iLw0_0_ok hs) 27 rfl) (by decide) (by decide) rfl (by decide) (lw_c38 h hi hL hR (fun σ' g => hk σ' (n + 1) (Nat.le_refl _) g))
  · exact go_tableIn (off := 2873) (t := 2918) (gDec (iLw0_0_ok hs) 27 rfl) (by decide) (by decide) rfl (by decide) (lw_c39 h hi hL hR (fun σ' g => hk σ' (n + 1) (Nat.le_refl _) g))
  · exact go_tableOut (t := 2942) (gDec (iLw0_0_ok hs) 27 rfl) (Or.inr (lw_tail hj (by omega))) (by decide) (hk σ n (Nat.le_succ n) h)

theorem lw_6 {L i : Nat} (hL : L ≤ 3072) (hi : i ≤ 4000) : (Int32.ofNat L - nI 6 < nI i) ↔ L < i + 6 := by
  have e1 : (Int32.ofNat L).toInt = (L : Int) := nI_toInt (n := L) (by omega)
  have e2 : (nI 6).toInt = (6 : Int) := nI_toInt (by decide)
  rw [Int32.lt_iff_toInt_lt, i_subB (by rw [e1, e2]; omega), e1, e2, nI_toInt (by omega)]
  omega
theorem nI_p6 (i : Nat) : nI i + Int32.ofInt 6 = nI (i + 6) := by
  rw [show Int32.ofInt 6 = nI 6 from rfl]
  exact nI_add i 6
set_option maxHeartbeats 4000000 in
set_option maxRecDepth 100000 in
theorem lw_loop {κ : gK} {hs : List (Nat × Nat × Nat × Nat)} {R : Room} {Z : gZ} {N : Nat} (hL : κ.2.2.2.2.2.1 ≤ 3072) (hR : ∀ d m, d ≤ 10 → m ≤ N → gFit R d m) (hz : ∀ (σ : gST) (n : Nat) (L : gL), n ≤ N → Go κ (mLw hs) R Z 2948 L [] σ n) : ∀ (f i n : Nat) (σ : gST), κ.2.2.2.2.2.1 < i + 6 * f → i ≤ 3078 → n + f ≤ N → gJ σ → Go κ (mLw hs) R Z 28 [(0, .ref κ.2.2.2.2.1), (1, .ref (κ.2.1 + 0)), (2, .ref (κ.2.1 + 376)), (3, .ref (κ.2.1 + 390)), (4, .ref (κ.2.1 + 391)), (5, .int (nI i))] [] σ n := by
  intro f
  induction f with
  | zero =>
    intro i n σ h1 h2 h3 h
    refine go_iload (q := 30) (gDec (iLw0_0_ok hs) 16 rfl) rfl rfl ?_
    refine go_aload_n (q := 31) (gDec (iLw0_0_ok hs) 17 rfl) rfl rfl rfl ?_
    refine go_slen (q := 32) (gDec (iLw0_0_ok hs) 18 rfl) rfl ?_
    refine go_bipush (v := nI 6) (q := 34) (gDec (iLw0_0_ok hs) 19 rfl) (by decide) rfl ?_
    refine go_isub (q := 35) (gDec (iLw0_0_ok hs) 20 rfl) rfl ?_
    refine go_icmp_gt (t := 2948) (q := 38) (gDec (iLw0_0_ok hs) 21 rfl) (by decide) rfl (fun c => ?_) (fun c => False.elim (c ((lw_6 hL (by omega)).mpr (by omega))))
    exact hz _ _ _ (by omega)
  | succ f ih =>
    intro i n σ h1 h2 h3 h
    refine go_iload (q := 30) (gDec (iLw0_0_ok hs) 16 rfl) rfl rfl ?_
    refine go_aload_n (q := 31) (gDec (iLw0_0_ok hs) 17 rfl) rfl rfl rfl ?_
    refine go_slen (q := 32) (gDec (iLw0_0_ok hs) 18 rfl) rfl ?_
    refine go_bipush (v := nI 6) (q := 34) (gDec (iLw0_0_ok hs) 19 rfl) (by decide) rfl ?_
    refine go_isub (q := 35) (gDec (iLw0_0_ok hs) 20 rfl) rfl ?_
    refine go_icmp_gt (t := 2948) (q := 38) (gDec (iLw0_0_ok hs) 21 rfl) (by decide) rfl (fun c => hz _ _ _ (by omega)) (fun c => ?_)
    have hi : i + 6 ≤ κ.2.2.2.2.2.1 := Nat.not_lt.mp (fun h9 => c ((lw_6 hL (by omega)).mpr h9))
    refine go_aload_n (q := 39) (gDec (iLw0_0_ok hs) 22 rfl) rfl rfl rfl ?_
    refine go_iload (q := 41) (gDec (iLw0_0_ok hs) 23 rfl) rfl rfl ?_
    refine go_sld (q := 42) (gDec (iLw0_0_ok hs) 24 rfl) (vp_in_nI (by omega) (by omega)) rfl ?_
    refine go_bipush (v := 63) (q := 44) (gDec (iLw0_0_ok hs) 25 rfl) (by decide) rfl ?_
    refine go_iand (q := 45) (gDec (iLw0_0_ok hs) 26 rfl) rfl ?_
    obtain ⟨j, hj, hx⟩ := x63 (κ.2.2.2.2.2.2 (nI i).toNatClampNeg)
    refine go_top (v' := nI j) hx ?_
    refine lw_sw h hi hL (fun d m q1 q2 => hR d m q1 (by omega)) hj (fun σ' n' q1 q2 => ?_)
    refine go_iinc (v := nI (i + 6)) (q := 2945) (gDec (iLw4_5_ok hs) 58 rfl) rfl (nI_p6 i) (Nat.le_of_ble_eq_true rfl) rfl ?_
    refine go_goto (t := 28) (gDec (iLw4_5_ok hs) 59 rfl) (by decide) ?_
    refine go_sub (L' := [(0, .ref κ.2.2.2.2.1), (1, .ref (κ.2.1 + 0)), (2, .ref (κ.2.1 + 376)), (3, .ref (κ.2.1 + 390)), (4, .ref (κ.2.1 + 391)), (5, .int (nI (i + 6)))]) ⟨rfl, rfl, rfl, rfl, rfl, rfl, trivial⟩ ?_
    exact ih (i + 6) n' σ' (by omega) (by omega) (by omega) q2
