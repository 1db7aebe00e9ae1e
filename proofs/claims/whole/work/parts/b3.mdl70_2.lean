set_option maxHeartbeats 4000000 in
set_option maxRecDepth 100000 in
theorem lw_c20 {κ : gK} {hs : List (Nat × Nat × Nat × Nat)} {R : Room} {Z : gZ} {σ : gST} {n i : Nat} (h : gJ σ) (hi : i + 6 ≤ κ.2.2.2.2.2.1) (hL : κ.2.2.2.2.2.1 ≤ 3072) (hR : ∀ d m, d ≤ 10 → m ≤ n + 1 → gFit R d m) (hk : ∀ σ', gJ σ' → Go κ (mLw hs) R Z 2942 [(0, .ref κ.2.2.2.2.1), (1, .ref (κ.2.1 + 0)), (2, .ref (κ.2.1 + 376)), (3, .ref (κ.2.1 + 390)), (4, .ref (κ.2.1 + 391)), (5, .int (nI i))] [] σ' (n + 1)) : Go κ (mLw hs) R Z 1832 [(0, .ref κ.2.2.2.2.1), (1, .ref (κ.2.1 + 0)), (2, .ref (κ.2.1 + 376)), (3, .ref (κ.2.1 + 390)), (4, .ref (κ.2.1 + 391)), (5, .int (nI i))] [] σ n := by
  obtain ⟨s', c1, c2, c3, c4⟩ := j_removeStem (κ := κ) (σ := σ) (a1 := (gX κ (i + 1))) (a2 := (gX κ (i + 2))) h
  refine go_aload_n (q := 1833) (gDec (iLw3_0_ok hs) 24 rfl) rfl rfl rfl ?_
  refine go_aload_n (q := 1834) (gDec (iLw3_0_ok hs) 25 rfl) rfl rfl rfl ?_
  refine go_iload (q := 1836) (gDec (iLw3_0_ok hs) 26 rfl) rfl rfl ?_
  refine go_iconst (v := nI 1) (q := 1837) (gDec (iLw3_0_ok hs) 27 rfl) (by decide) rfl ?_
  refine go_iaddN (c := i + 1) (q := 1838) (gDec (iLw3_0_ok hs) 28 rfl) rfl rfl ?_
  refine go_sld (q := 1839) (gDec (iLw3_0_ok hs) 29 rfl) (vp_in_nI (by omega) (by omega)) rfl ?_
  refine go_top (v' := gX κ (i + 1)) (rfl) ?_
  refine go_aload_n (q := 1840) (gDec (iLw3_0_ok hs) 30 rfl) rfl rfl rfl ?_
  refine go_iload (q := 1842) (gDec (iLw3_0_ok hs) 31 rfl) rfl rfl ?_
  refine go_iconst (v := nI 2) (q := 1843) (gDec (iLw3_0_ok hs) 32 rfl) (by decide) rfl ?_
  refine go_iaddN (c := i + 2) (q := 1844) (gDec (iLw3_0_ok hs) 33 rfl) rfl rfl ?_
  refine go_sld (q := 1845) (gDec (iLw3_0_ok hs) 34 rfl) (vp_in_nI (by omega) (by omega)) rfl ?_
  refine go_top (v' := gX κ (i + 2)) (rfl) ?_
  refine go_aload_n (q := 1846) (gDec (iLw3_0_ok hs) 35 rfl) rfl rfl rfl ?_
  refine go_callH (n2 := n + 1) (q := 1849) kL_223 rfl (ctL_removeStem (κ := κ) (σ := σ) (a1 := (gX κ (i + 1))) (a2 := (gX κ (i + 2))) h) (gDec (iLw3_0_ok hs) 36 rfl) rfl rfl (Nat.le_of_ble_eq_true rfl) rfl (hR _ _ (by decide) (Nat.le_refl _)) rfl ?_
  refine go_istore (q := 1851) (gDec (iLw3_0_ok hs) 37 rfl) (Nat.le_of_ble_eq_true rfl) rfl ?_
  refine go_aload_n (q := 1852) (gDec (iLw3_0_ok hs) 38 rfl) rfl rfl rfl ?_
  refine go_aload_n (q := 1853) (gDec (iLw3_0_ok hs) 39 rfl) rfl rfl rfl ?_
  refine go_iload (q := 1855) (gDec (iLw3_0_ok hs) 40 rfl) rfl rfl ?_
  refine go_iconst (v := nI 1) (q := 1856) (gDec (iLw3_0_ok hs) 41 rfl) (by decide) rfl ?_
  refine go_iaddN (c := i + 1) (q := 1857) (gDec (iLw3_0_ok hs) 42 rfl) rfl rfl ?_
  refine go_sld (q := 1858) (gDec (iLw3_0_ok hs) 43 rfl) (vp_in_nI (by omega) (by omega)) rfl ?_
  refine go_top (v' := gX κ (i + 1)) (rfl) ?_
  refine go_aload_n (q := 1859) (gDec (iLw3_0_ok hs) 44 rfl) rfl rfl rfl ?_
  refine go_iload (q := 1861) (gDec (iLw3_0_ok hs) 45 rfl) rfl rfl ?_
  refine go_iconst (v := nI 2) (q := 1862) (gDec (iLw3_0_ok hs) 46 rfl) (by decide) rfl ?_
  refine go_iaddN (c := i + 2) (q := 1863) (gDec (iLw3_0_ok hs) 47 rfl) rfl rfl ?_
  refine go_sld (q := 1864) (gDec (iLw3_0_ok hs) 48 rfl) (vp_in_nI (by omega) (by omega)) rfl ?_
  refine go_top (v' := gX κ (i + 2)) (rfl) ?_
  refine go_callV (n2 := n + 1) (q := 1867) kL_225 c1 (gDec (iLw3_0_ok hs) 49 rfl) rfl rfl (by decide) rfl rfl rfl (Nat.le_of_ble_eq_true rfl) rfl (hR _ _ (by decide) (Nat.le_refl _)) rfl ?_
  refine go_istore (q := 1869) (gDec (iLw3_0_ok hs) 50 rfl) (Nat.le_of_ble_eq_true rfl) rfl ?_
  refine go_aload_n (q := 1870) (gDec (iLw3_0_ok hs) 51 rfl) rfl rfl rfl ?_
  refine go_callV (n2 := n + 1) (q := 1873) kL_157 (ctX11_thrown (κ := κ) (σ := s')) (gDec (iLw3_0_ok hs) 52 rfl) rfl rfl (by decide) rfl rfl rfl (Nat.le_of_ble_eq_true rfl) rfl (hR _ _ (by decide) (Nat.le_refl _)) rfl ?_
  refine go_top (v' := xC kO (fRemoveStem σ (gX κ (i + 1)) (gX κ (i + 2))).1) (c2) ?_
  refine go_iload (q := 1875) (gDec (iLw3_0_ok hs) 53 rfl) rfl rfl ?_
  refine go_icmp_eq (t := 1880) (q := 1878) (gDec (iLw3_0_ok hs) 54 rfl) (by decide) rfl (fun c1875 => ?_) (fun c1875 => False.elim (c1875 rfl))
  refine go_iload (q := 1882) (gDec (iLw3_0_ok hs) 57 rfl) rfl rfl ?_
  refine go_if_ne (t := 1897) (q := 1885) (gDec (iLw3_0_ok hs) 58 rfl) (by decide) rfl (fun c1882 => ?_) (fun c1882 => ?_)
  · refine go_goto (t := 2942) (gDec (iLw3_1_ok hs) 8 rfl) (by decide) ?_
    refine go_sub (L' := [(0, .ref κ.2.2.2.2.1), (1, .ref (κ.2.1 + 0)), (2, .ref (κ.2.1 + 376)), (3, .ref (κ.2.1 + 390)), (4, .ref (κ.2.1 + 391)), (5, .int (nI i))]) ⟨rfl, rfl, rfl, rfl, rfl, rfl, trivial⟩ ?_
    exact hk s' c4
  · obtain ⟨v, he⟩ := (r_removeStem (σ := σ) (a1 := (gX κ (i + 1))) (a2 := (gX κ (i + 2)))).resolve_right (fun h9 => h9 c1882)
    refine go_aload_n (q := 1886) (gDec (iLw3_0_ok hs) 59 rfl) rfl rfl rfl ?_
    refine go_iconst (v := 0) (q := 1887) (gDec (iLw3_1_ok hs) 0 rfl) (by decide) rfl ?_
    refine go_lald (q := 1888) (gDec (iLw3_1_ok hs) 1 rfl) rfl (by decide) vp_00 rfl ?_
    refine go_iload (q := 1890) (gDec (iLw3_1_ok hs) 2 rfl) rfl rfl ?_
    refine go_i2l (q := 1891) (gDec (iLw3_1_ok hs) 3 rfl) rfl ?_
    refine go_lcmp (q := 1892) (gDec (iLw3_1_ok hs) 4 rfl) rfl ?_
    refine go_top (v' := 0) ((lw_cmp he c3)) ?_
    refine go_if_eq (t := 1897) (q := 1895) (gDec (iLw3_1_ok hs) 5 rfl) (by decide) rfl (fun c1892 => ?_) (fun c1892 => False.elim (c1892 rfl))
    refine go_goto (t := 2942) (gDec (iLw3_1_ok hs) 8 rfl) (by decide) ?_
    refine go_sub (L' := [(0, .ref κ.2.2.2.2.1), (1, .ref (κ.2.1 + 0)), (2, .ref (κ.2.1 + 376)), (3, .ref (κ.2.1 + 390)), (4, .ref (κ.2.1 + 391)), (5, .int (nI i))]) ⟨rfl, rfl, rfl, rfl, rfl, rfl, trivial⟩ ?_
    exact hk s' c4

set_option maxHeartbeats 4000000 in
set_option maxRecDepth 100000 in
theorem lw_c21 {κ : gK} {hs : List (Nat × Nat × Nat × Nat)} {R : Room} {Z : gZ} {σ : gST} {n i : Nat} (h : gJ σ) (hi : i + 6 ≤ κ.2.2.2.2.2.1) (hL : κ.2.2.2.2.2.1 ≤ 3072) (hR : ∀ d m, d ≤ 10 → m ≤ n + 1 → gFit R d m) (hk : ∀ σ', gJ σ' → Go κ (mLw hs) R Z 2942 [(0, .ref κ.2.2.2.2.1), (1, .ref (κ.2.1 + 0)), (2, .ref (κ.2.1 + 376)), (3, .ref (κ.2.1 + 390)), (4, .ref (κ.2.1 + 391)), (5, .int (nI i))] [] σ' (n + 1)) : Go κ (mLw hs) R Z 1900 [(0, .ref κ.2.2.2.2.1), (1, .ref (κ.2.1 + 0)), (2, .ref (κ.2.1 + 376)), (3, .ref (κ.2.1 + 390)), (4, .ref (κ.2.1 + 391)), (5, .int (nI i))] [] σ n := by
  by_cases hb : gX κ (i + 3) = 0
  · obtain ⟨s', c1, c2, c3, c4⟩ := j_stem (κ := κ) (σ := σ) (a1 := (gX κ (i + 1))) (a2 := (gX κ (i + 2))) (a3 := 0) h
    refine go_aload_n (q := 1901) (gDec (iLw3_1_ok hs) 9 rfl) rfl rfl rfl ?_
    refine go_aload_n (q := 1902) (gDec (iLw3_1_ok hs) 10 rfl) rfl rfl rfl ?_
    refine go_iload (q := 1904) (gDec (iLw3_1_ok hs) 11 rfl) rfl rfl ?_
    refine go_iconst (v := nI 1) (q := 1905) (gDec (iLw3_1_ok hs) 12 rfl) (by decide) rfl ?_
    refine go_iaddN (c := i + 1) (q := 1906) (gDec (iLw3_1_ok hs) 13 rfl) rfl rfl ?_
    refine go_sld (q := 1907) (gDec (iLw3_1_ok hs) 14 rfl) (vp_in_nI (by omega) (by omega)) rfl ?_
    refine go_top (v' := gX κ (i + 1)) (rfl) ?_
    refine go_aload_n (q := 1908) (gDec (iLw3_1_ok hs) 15 rfl) rfl rfl rfl ?_
    refine go_iload (q := 1910) (gDec (iLw3_1_ok hs) 16 rfl) rfl rfl ?_
    refine go_iconst (v := nI 2) (q := 1911) (gDec (iLw3_1_ok hs) 17 rfl) (by decide) rfl ?_
    refine go_iaddN (c := i + 2) (q := 1912) (gDec (iLw3_1_ok hs) 18 rfl) rfl rfl ?_
    refine go_sld (q := 1913) (gDec (iLw3_1_ok hs) 19 rfl) (vp_in_nI (by omega) (by omega)) rfl ?_
    refine go_top (v' := gX κ (i + 2)) (rfl) ?_
    refine go_aload_n (q := 1914) (gDec (iLw3_1_ok hs) 20 rfl) rfl rfl rfl ?_
    refine go_iload (q := 1916) (gDec (iLw3_1_ok hs) 21 rfl) rfl rfl ?_
    refine go_iconst (v := nI 3) (q := 1917) (gDec (iLw3_1_ok hs) 22 rfl) (by decide) rfl ?_
    refine go_iaddN (c := i + 3) (q := 1918) (gDec (iLw3_1_ok hs) 23 rfl) rfl rfl ?_
    refine go_sld (q := 1919) (gDec (iLw3_1_ok hs) 24 rfl) (vp_in_nI (by omega) (by omega)) rfl ?_
    refine go_top (v' := gX κ (i + 3)) (rfl) ?_
    refine go_if_eq (t := 1926) (q := 1922) (gDec (iLw3_1_ok hs) 25 rfl) (by decide) rfl (fun c1919 => ?_) (fun c1919 => False.elim (c1919 hb))
    refine go_iconst (v := 0) (q := 1927) (gDec (iLw3_1_ok hs) 28 rfl) (by decide) rfl ?_
    refine go_aload_n (q := 1928) (gDec (iLw3_1_ok hs) 29 rfl) rfl rfl rfl ?_
    refine go_callH (n2 := n + 1) (q := 1931) kL_226 rfl (ctL_stem (κ := κ) (σ := σ) (a1 := (gX κ (i + 1))) (a2 := (gX κ (i + 2))) (a3 := 0) h) (gDec (iLw3_1_ok hs) 30 rfl) rfl rfl (Nat.le_of_ble_eq_true rfl) rfl (hR _ _ (by decide) (Nat.le_refl _)) rfl ?_
    refine go_istore (q := 1933) (gDec (iLw3_1_ok hs) 31 rfl) (Nat.le_of_ble_eq_true rfl) rfl ?_
    refine go_aload_n (q := 1934) (gDec (iLw3_1_ok hs) 32 rfl) rfl rfl rfl ?_
    refine go_aload_n (q := 1935) (gDec (iLw3_1_ok hs) 33 rfl) rfl rfl rfl ?_
    refine go_iload (q := 1937) (gDec (iLw3_1_ok hs) 34 rfl) rfl rfl ?_
    refine go_iconst (v := nI 1) (q := 1938) (gDec (iLw3_1_ok hs) 35 rfl) (by decide) rfl ?_
    refine go_iaddN (c := i + 1) (q := 1939) (gDec (iLw3_1_ok hs) 36 rfl) rfl rfl ?_
    refine go_sld (q := 1940) (gDec (iLw3_1_ok hs) 37 rfl) (vp_in_nI (by omega) (by omega)) rfl ?_
    refine go_top (v' := gX κ (i + 1)) (rfl) ?_
    refine go_aload_n (q := 1941) (gDec (iLw3_1_ok hs) 38 rfl) rfl rfl rfl ?_
    refine go_iload (q := 1943) (gDec (iLw3_1_ok hs) 39 rfl) rfl rfl ?_
    refine go_iconst (v := nI 2) (q := 1944) (gDec (iLw3_1_ok hs) 40 rfl) (by decide) rfl ?_
    refine go_iaddN (c := i + 2) (q := 1945) (gDec (iLw3_1_ok hs) 41 rfl) rfl rfl ?_
    refine go_sld (q := 1946) (gDec (iLw3_1_ok hs) 42 rfl) (vp_in_nI (by omega) (by omega)) rfl ?_
    refine go_top (v' := gX κ (i + 2)) (rfl) ?_
    refine go_aload_n (q := 1947) (gDec (iLw3_1_ok hs) 43 rfl) rfl rfl rfl ?_
    refine go_iload (q := 1949) (gDec (iLw3_1_ok hs) 44 rfl) rfl rfl ?_
    refine go_iconst (v := nI 3) (q := 1950) (gDec (iLw3_1_ok hs) 45 rfl) (by decide) rfl ?_
    refine go_iaddN (c := i + 3) (q := 1951) (gDec (iLw3_1_ok hs) 46 rfl) rfl rfl ?_
    refine go_sld (q := 1952) (gDec (iLw3_1_ok hs) 47 rfl) (vp_in_nI (by omega) (by omega)) rfl ?_
    refine go_top (v' := gX κ (i + 3)) (rfl) ?_
    refine go_if_eq (t := 1959) (q := 1955) (gDec (iLw3_1_ok hs) 48 rfl) (by decide) rfl (fun c1952 => ?_) (fun c1952 => False.elim (c1952 hb))
    refine go_iconst (v := 0) (q := 1960) (gDec (iLw3_1_ok hs) 51 rfl) (by decide) rfl ?_
    refine go_callV (n2 := n + 1) (q := 1963) kL_229 c1 (gDec (iLw3_1_ok hs) 52 rfl) rfl rfl (by decide) rfl rfl rfl (Nat.le_of_ble_eq_true rfl) rfl (hR _ _ (by decide) (Nat.le_refl _)) rfl ?_
    refine go_istore (q := 1965) (gDec (iLw3_1_ok hs) 53 rfl) (Nat.le_of_ble_eq_true rfl) rfl ?_
    refine go_aload_n (q := 1966) (gDec (iLw3_1_ok hs) 54 rfl) rfl rfl rfl ?_
    refine go_callV (n2 := n + 1) (q := 1969) kL_157 (ctX11_thrown (κ := κ) (σ := s')) (gDec (iLw3_1_ok hs) 55 rfl) rfl rfl (by decide) rfl rfl rfl (Nat.le_of_ble_eq_true rfl) rfl (hR _ _ (by decide) (Nat.le_refl _)) rfl ?_
    refine go_top (v' := xC kO (fStem σ (gX κ (i + 1)) (gX κ (i + 2)) 0).1) (c2) ?_
    refine go_iload (q := 1971) (gDec (iLw3_1_ok hs) 56 rfl) rfl rfl ?_
    refine go_icmp_eq (t := 1976) (q := 1974) (gDec (iLw3_1_ok hs) 57 rfl) (by decide) rfl (fun c1971 => ?_) (fun c1971 => False.elim (c1971 rfl))
    refine go_iload (q := 1978) (gDec (iLw3_2_ok hs) 0 rfl) rfl rfl ?_
    refine go_if_ne (t := 1993) (q := 1981) (gDec (iLw3_2_ok hs) 1 rfl) (by decide) rfl (fun c1978 => ?_) (fun c1978 => ?_)
    · refine go_goto (t := 2942) (gDec (iLw3_2_ok hs) 11 rfl) (by decide) ?_
      refine go_sub (L' := [(0, .ref κ.2.2.2.2.1), (1, .ref (κ.2.1 + 0)), (2, .ref (κ.2.1 + 376)), (3, .ref (κ.2.1 + 390)), (4, .ref (κ.2.1 + 391)), (5, .int (nI i))]) ⟨rfl, rfl, rfl, rfl, rfl, rfl, trivial⟩ ?_
      exact hk s' c4
    · obtain ⟨v, he⟩ := (r_stem (σ := σ) (a1 := (gX κ (i + 1))) (a2 := (gX κ (i + 2))) (a3 := 0)).resolve_right (fun h9 => h9 c1978)
      refine go_aload_n (q := 1982) (gDec (iLw3_2_ok hs) 2 rfl) rfl rfl rfl ?_
      refine go_iconst (v := 0) (q := 1983) (gDec (iLw3_2_ok hs) 3 rfl) (by decide) rfl ?_
      refine go_lald (q := 1984) (gDec (iLw3_2_ok hs) 4 rfl) rfl (by decide) vp_00 rfl ?_
      refine go_iload (q := 1986) (gDec (iLw3_2_ok hs) 5 rfl) rfl rfl ?_
      refine go_i2l (q := 1987) (gDec (iLw3_2_ok hs) 6 rfl) rfl ?_
      refine go_lcmp (q := 1988) (gDec (iLw3_2_ok hs) 7 rfl) rfl ?_
      refine go_top (v' := 0) ((lw_cmp he c3)) ?_
      refine go_if_eq (t := 1993) (q := 1991) (gDec (iLw3_2_ok hs) 8 rfl) (by decide) rfl (fun c1988 => ?_) (fun c1988 => False.elim (c1988 rfl))
      refine go_goto (t := 2942) (gDec (iLw3_2_ok hs) 11 rfl) (by decide) ?_
      refine go_sub (L' := [(0, .ref κ.2.2.2.2.1), (1, .ref (κ.2.1 + 0)), (2, .ref (κ.2.1 + 376)), (3, .ref (κ.2.1 + 390)), (4, .ref (κ.2.1 + 391)), (5, .int (nI i))]) ⟨rfl, rfl, rfl, rfl, rfl, rfl, trivial⟩ ?_
      exact hk s' c4
  · obtain ⟨s', c1, c2, c3, c4⟩ := j_stem (κ := κ) (σ := σ) (a1 := (gX κ (i + 1))) (a2 := (gX κ (i + 2))) (a3 := 1) h
    refine go_aload_n (q := 1901) (gDec (iLw3_1_ok hs) 9 rfl) rfl rfl rfl ?_
    refine go_aload_n (q := 1902) (gDec (iLw3_1_ok hs) 10 rfl) rfl rfl rfl ?_
    refine go_iload (q := 1904) (gDec (iLw3_1_ok hs) 11 rfl) rfl rfl ?_
    refine go_iconst (v := nI 1) (q := 1905) (gDec (iLw3_1_ok hs) 12 rfl) (by decide) rfl ?_
    refine go_iaddN (c := i + 1) (q := 1906) (gDec (iLw3_1_ok hs) 13 rfl) rfl rfl ?_
    refine go_sld (q := 1907) (gDec (iLw3_1_ok hs) 14 rfl) (vp_in_nI (by omega) (by omega)) rfl ?_
    refine go_top (v' := gX κ (i + 1)) (rfl) ?_
    refine go_aload_n (q := 1908) (gDec (iLw3_1_ok hs) 15 rfl) rfl rfl rfl ?_
    refine go_iload (q := 1910) (gDec (iLw3_1_ok hs) 16 rfl) rfl rfl ?_
    refine go_iconst (v := nI 2) (q := 1911) (gDec (iLw3_1_ok hs) 17 rfl) (by decide) rfl ?_
    refine go_iaddN (c := i + 2) (q := 1912) (gDec (iLw3_1_ok hs) 18 rfl) rfl rfl ?_
    refine go_sld (q := 1913) (gDec (iLw3_1_ok hs) 19 rfl) (vp_in_nI (by omega) (by omega)) rfl ?_
    refine go_top (v' := gX κ (i + 2)) (rfl) ?_
    refine go_aload_n (q := 1914) (gDec (iLw3_1_ok hs) 20 rfl) rfl rfl rfl ?_
    refine go_iload (q := 1916) (gDec (iLw3_1_ok hs) 21 rfl) rfl rfl ?_
    refine go_iconst (v := nI 3) (q := 1917) (gDec (iLw3_1_ok hs) 22 rfl) (by decide) rfl ?_
    refine go_iaddN (c := i + 3) (q := 1918) (gDec (iLw3_1_ok hs) 23 rfl) rfl rfl ?_
    refine go_sld (q := 1919) (gDec (iLw3_1_ok hs) 24 rfl) (vp_in_nI (by omega) (by omega)) rfl ?_
    refine go_top (v' := gX κ (i + 3)) (rfl) ?_
    refine go_if_eq (t := 1926) (q := 1922) (gDec (iLw3_1_ok hs) 25 rfl) (by decide) rfl (fun c1919 => False.elim (hb c1919)) (fun c1919 => ?_)
    refine go_iconst (v := 1) (q := 1923) (gDec (iLw3_1_ok hs) 26 rfl) (by decide) rfl ?_
    refine go_goto (t := 1927) (gDec (iLw3_1_ok hs) 27 rfl) (by decide) ?_
    refine go_aload_n (q := 1928) (gDec (iLw3_1_ok hs) 29 rfl) rfl rfl rfl ?_
    refine go_callH (n2 := n + 1) (q := 1931) kL_226 rfl (ctL_stem (κ := κ) (σ := σ) (a1 := (gX κ (i + 1))) (a2 := (gX κ (i + 2))) (a3 := 1) h) (gDec (iLw3_1_ok hs) 30 rfl) rfl rfl (Nat.le_of_ble_eq_true rfl) rfl (hR _ _ (by decide) (Nat.le_refl _)) rfl ?_
    refine go_istore (q := 1933) (gDec (iLw3_1_ok hs) 31 rfl) (Nat.le_of_ble_eq_true rfl) rfl ?_
    refine go_aload_n (q := 1934) (gDec (iLw3_1_ok hs) 32 rfl) rfl rfl rfl ?_
    refine go_aload_n (q := 1935) (gDec (iLw3_1_ok hs) 33 rfl) rfl rfl rfl ?_
    refine go_iload (q := 1937) (gDec (iLw3_1_ok hs) 34 rfl) rfl rfl ?_
    refine go_iconst (v := nI 1) (q := 1938) (gDec (iLw3_1_ok hs) 35 rfl) (by decide) rfl ?_
    refine go_iaddN (c := i + 1) (q := 1939) (gDec (iLw3_1_ok hs) 36 rfl) rfl rfl ?_
    refine go_sld (q := 1940) (gDec (iLw3_1_ok hs) 37 rfl) (vp_in_nI (by omega) (by omega)) rfl ?_
    refine go_top (v' := gX κ (i + 1)) (rfl) ?_
    refine go_aload_n (q := 1941) (gDec (iLw3_1_ok hs) 38 rfl) rfl rfl rfl ?_
    refine go_iload (q := 1943) (gDec (iLw3_1_ok hs) 39 rfl) rfl rfl ?_
    refine go_iconst (v := nI 2) (q := 1944) (gDec (iLw3_1_ok hs) 40 rfl) (by decide) rfl ?_
    refine go_iaddN (c := i + 2) (q := 1945) (gDec (iLw3_1_ok hs) 41 rfl) rfl rfl ?_
    refine go_sld (q := 1946) (gDec (iLw3_1_ok hs) 42 rfl) (vp_in_nI (by omega) (by omega)) rfl ?_
    refine go_top (v' := gX κ (i + 2)) (rfl) ?_
    refine go_aload_n (q := 1947) (gDec (iLw3_1_ok hs) 43 rfl) rfl rfl rfl ?_
    refine go_iload (q := 1949) (gDec (iLw3_1_ok hs) 44 rfl) rfl rfl ?_
    refine go_iconst (v := nI 3) (q := 1950) (gDec (iLw3_1_ok hs) 45 rfl) (by decide) rfl ?_
    refine go_iaddN (c := i + 3) (q := 1951) (gDec (iLw3_1_ok hs) 46 rfl) rfl rfl ?_
    refine go_sld (q := 1952) (gDec (iLw3_1_ok hs) 47 rfl) (vp_in_nI (by omega) (by omega)) rfl ?_
    refine go_top (v' := gX κ (i + 3)) (rfl) ?_
    refine go_if_eq (t := 1959) (q := 1955) (gDec (iLw3_1_ok hs) 48 rfl) (by decide) rfl (fun c1952 => False.elim (hb c1952)) (fun c1952 => ?_)
    refine go_iconst (v := 1) (q := 1956) (gDec (iLw3_1_ok hs) 49 rfl) (by decide) rfl ?_
    refine go_goto (t := 1960) (gDec (iLw3_1_ok hs) 50 rfl) (by decide) ?_
    refine go_callV (n2 := n + 1) (q := 1963) kL_229 c1 (gDec (iLw3_1_ok hs) 52 rfl) rfl rfl (by decide) rfl rfl rfl (Nat.le_of_ble_eq_true rfl) rfl (hR _ _ (by decide) (Nat.le_refl _)) rfl ?_
    refine go_istore (q := 1965) (gDec (iLw3_1_ok hs) 53 rfl) (Nat.le_of_ble_eq_true rfl) rfl ?_
    refine go_aload_n (q := 1966) (gDec (iLw3_1_ok hs) 54 rfl) rfl rfl rfl ?_
    refine go_callV (n2 := n + 1) (q := 1969) kL_157 (ctX11_thrown (κ := κ) (σ := s')) (gDec (iLw3_1_ok hs) 55 rfl) rfl rfl (by decide) rfl rfl rfl (Nat.le_of_ble_eq_true rfl) rfl (hR _ _ (by decide) (Nat.le_refl _)) rfl ?_
    refine go_top (v' := xC kO (fStem σ (gX κ (i + 1)) (gX κ (i + 2)) 1).1) (c2) ?_
    refine go_iload (q := 1971) (gDec (iLw3_1_ok hs) 56 rfl) rfl rfl ?_
    refine go_icmp_eq (t := 1976) (q := 1974) (gDec (iLw3_1_ok hs) 57 rfl) (by decide) rfl (fun c1971 => ?_) (fun c1971 => False.elim (c1971 rfl))
    refine go_iload (q := 1978) (gDec (iLw3_2_ok hs) 0 rfl) rfl rfl ?_
    refine go_if_ne (t := 1993) (q := 1981) (gDec (iLw3_2_ok hs) 1 rfl) (by decide) rfl (fun c1978 => ?_) (fun c1978 => ?_)
    · refine go_goto (t := 2942) (gDec (iLw3_2_ok hs) 11 rfl) (by decide) ?_
      refine go_sub (L' := [(0, .ref κ.2.2.2.2.1), (1, .ref (κ.2.1 + 0)), (2, .ref (κ.2.1 + 376)), (3, .ref (κ.2.1 + 390)), (4, .ref (κ.2.1 + 391)), (5, .int (nI i))]) ⟨rfl, rfl, rfl, rfl, rfl, rfl, trivial⟩ ?_
      exact hk s' c4
    · obtain ⟨v, he⟩ := (r_stem (σ := σ) (a1 := (gX κ (i + 1))) (a2 := (gX κ (i + 2))) (a3 := 1)).resolve_right (fun h9 => h9 c1978)
      refine go_aload_n (q := 1982) (gDec (iLw3_2_ok hs) 2 rfl) rfl rfl rfl ?_
      refine go_iconst (v := 0) (q := 1983) (gDec (iLw3_2_ok hs) 3 rfl) (by decide) rfl ?_
      refine go_lald (q := 1984) (gDec (iLw3_2_ok hs) 4 rfl) rfl (by decide) vp_00 rfl ?_
      refine go_iload (q := 1986) (gDec (iLw3_2_ok hs) 5 rfl) rfl rfl ?_
      refine go_i2l (q := 1987) (gDec (iLw3_2_ok hs) 6 rfl) rfl ?_
      refine go_lcmp (q := 1988) (gDec (iLw3_2_ok hs) 7 rfl) rfl ?_
      refine go_top (v' := 0) ((lw_cmp he c3)) ?_
      refine go_if_eq (t := 1993) (q := 1991) (gDec (iLw3_2_ok hs) 8 rfl) (by decide) rfl (fun c1988 => ?_) (fun c1988 => False.elim (c1988 rfl))
      refine go_goto (t := 2942) (gDec (iLw3_2_ok hs) 11 rfl) (by decide) ?_
      refine go_sub (L' := [(0, .ref κ.2.2.2.2.1), (1, .ref (κ.2.1 + 0)), (2, .ref (κ.2.1 + 376)), (3, .ref (κ.2.1 + 390)), (4, .ref (κ.2.1 + 391)), (5, .int (nI i))]) ⟨rfl, rfl, rfl, rfl, rfl, rfl, trivial⟩ ?_
      exact hk s' c4

set_option maxHeartbeats 4000000 in
set_option maxRecDepth 100000 in
theorem lw_c22 {κ : gK} {hs : List (Nat × Nat × Nat × Nat)} {R : Room} {Z : gZ} {σ : gST} {n i : Nat} (h : gJ σ) (hi : i + 6 ≤ κ.2.2.2.2.2.1) (hL : κ.2.2.2.2.2.1 ≤ 3072) (hR : ∀ d m, d ≤ 10 → m ≤ n + 1 → gFit R d m) (hk : ∀ σ', gJ σ' → Go κ (mLw hs) R Z 2942 [(0, .ref κ.2.2.2.2.1), (1, .ref (κ.2.1 + 0)), (2, .ref (κ.2.1 + 376)), (3, .ref (κ.2.1 + 390)), (4, .ref (κ.2.1 + 391)), (5, .int (nI i))] [] σ' (n + 1)) : Go κ (mLw hs) R Z 1996 [(0, .ref κ.2.2.2.2.1), (1, .ref (κ.2.1 + 0)), (2, .ref (κ.2.1 + 376)), (3, .ref (κ.2.1 + 390)), (4, .ref (κ.2.1 + 391)), (5, .int (nI i))] [] σ n := by
  obtain ⟨s', c1, c2, c3, c4⟩ := j_place (κ := κ) (σ := σ) (a1 := (gX κ (i + 1))) (a2 := (gX κ (i + 2))) (a3 := (gX κ (i + 3))) h
  refine go_aload_n (q := 1997) (gDec (iLw3_2_ok hs) 12 rfl) rfl rfl rfl ?_
  refine go_aload_n (q := 1998) (gDec (iLw3_2_ok hs) 13 rfl) rfl rfl rfl ?_
  refine go_iload (q := 2000) (gDec (iLw3_2_ok hs) 14 rfl) rfl rfl ?_
  refine go_iconst (v := nI 1) (q := 2001) (gDec (iLw3_2_ok hs) 15 rfl) (by decide) rfl ?_
  refine go_iaddN (c := i + 1) (q := 2002) (gDec (iLw3_2_ok hs) 16 rfl) rfl rfl ?_
  refine go_sld (q := 2003) (gDec (iLw3_2_ok hs) 17 rfl) (vp_in_nI (by omega) (by omega)) rfl ?_
  refine go_top (v' := gX κ (i + 1)) (rfl) ?_
  refine go_aload_n (q := 2004) (gDec (iLw3_2_ok hs) 18 rfl) rfl rfl rfl ?_
  refine go_iload (q := 2006) (gDec (iLw3_2_ok hs) 19 rfl) rfl rfl ?_
  refine go_iconst (v := nI 2) (q := 2007) (gDec (iLw3_2_ok hs) 20 rfl) (by decide) rfl ?_
  refine go_iaddN (c := i + 2) (q := 2008) (gDec (iLw3_2_ok hs) 21 rfl) rfl rfl ?_
  refine go_sld (q := 2009) (gDec (iLw3_2_ok hs) 22 rfl) (vp_in_nI (by omega) (by omega)) rfl ?_
  refine go_top (v' := gX κ (i + 2)) (rfl) ?_
  refine go_aload_n (q := 2010) (gDec (iLw3_2_ok hs) 23 rfl) rfl rfl rfl ?_
  refine go_iload (q := 2012) (gDec (iLw3_2_ok hs) 24 rfl) rfl rfl ?_
  refine go_iconst (v := nI 3) (q := 2013) (gDec (iLw3_2_ok hs) 25 rfl) (by decide) rfl ?_
  refine go_iaddN (c := i + 3) (q := 2014) (gDec (iLw3_2_ok hs) 26 rfl) rfl rfl ?_
  refine go_sld (q := 2015) (gDec (iLw3_2_ok hs) 27 rfl) (vp_in_nI (by omega) (by omega)) rfl ?_
  refine go_top (v' := gX κ (i + 3)) (rfl) ?_
  refine go_aload_n (q := 2016) (gDec (iLw3_2_ok hs) 28 rfl) rfl rfl rfl ?_
  refine go_callH (n2 := n + 1) (q := 2019) kL_230 rfl (ctL_place (κ := κ) (σ := σ) (a1 := (gX κ (i + 1))) (a2 := (gX κ (i + 2))) (a3 := (gX κ (i + 3))) h) (gDec (iLw3_2_ok hs) 29 rfl) rfl rfl (Nat.le_of_ble_eq_true rfl) rfl (hR _ _ (by decide) (Nat.le_refl _)) rfl ?_
  refine go_istore (q := 2021) (gDec (iLw3_2_ok hs) 30 rfl) (Nat.le_of_ble_eq_true rfl) rfl ?_
  refine go_aload_n (q := 2022) (gDec (iLw3_2_ok hs) 31 rfl) rfl rfl rfl ?_
  refine go_aload_n (q := 2023) (gDec (iLw3_2_ok hs) 32 rfl) rfl rfl rfl ?_
  refine go_iload (q := 2025) (gDec (iLw3_2_ok hs) 33 rfl) rfl rfl ?_
  refine go_iconst (v := nI 1) (q := 2026) (gDec (iLw3_2_ok hs) 34 rfl) (by decide) rfl ?_
  refine go_iaddN (c := i + 1) (q := 2027) (gDec (iLw3_2_ok hs) 35 rfl) rfl rfl ?_
  refine go_sld (q := 2028) (gDec (iLw3_2_ok hs) 36 rfl) (vp_in_nI (by omega) (by omega)) rfl ?_
  refine go_top (v' := gX κ (i + 1)) (rfl) ?_
  refine go_aload_n (q := 2029) (gDec (iLw3_2_ok hs) 37 rfl) rfl rfl rfl ?_
  refine go_iload (q := 2031) (gDec (iLw3_2_ok hs) 38 rfl) rfl rfl ?_
  refine go_iconst (v := nI 2) (q := 2032) (gDec (iLw3_2_ok hs) 39 rfl) (by decide) rfl ?_
  refine go_iaddN (c := i + 2) (q := 2033) (gDec (iLw3_2_ok hs) 40 rfl) rfl rfl ?_
  refine go_sld (q := 2034) (gDec (iLw3_2_ok hs) 41 rfl) (vp_in_nI (by omega) (by omega)) rfl ?_
  refine go_top (v' := gX κ (i + 2)) (rfl) ?_
  refine go_aload_n (q := 2035) (gDec (iLw3_2_ok hs) 42 rfl) rfl rfl rfl ?_
  refine go_iload (q := 2037) (gDec (iLw3_2_ok hs) 43 rfl) rfl rfl ?_
  refine go_iconst (v := nI 3) (q := 2038) (gDec (iLw3_2_ok hs) 44 rfl) (by decide) rfl ?_
  refine go_iaddN (c := i + 3) (q := 2039) (gDec (iLw3_2_ok hs) 45 rfl) rfl rfl ?_
  refine go_sld (q := 2040) (gDec (iLw3_2_ok hs) 46 rfl) (vp_in_nI (by omega) (by omega)) rfl ?_
  refine go_top (v' := gX κ (i + 3)) (rfl) ?_
  refine go_callV (n2 := n + 1) (q := 2043) kL_232 c1 (gDec (iLw3_2_ok hs) 47 rfl) rfl rfl (by decide) rfl rfl rfl (Nat.le_of_ble_eq_true rfl) rfl (hR _ _ (by decide) (Nat.le_refl _)) rfl ?_
  refine go_istore (q := 2045) (gDec (iLw3_2_ok hs) 48 rfl) (Nat.le_of_ble_eq_true rfl) rfl ?_
  refine go_aload_n (q := 2046) (gDec (iLw3_2_ok hs) 49 rfl) rfl rfl rfl ?_
  refine go_callV (n2 := n + 1) (q := 2049) kL_157 (ctX11_thrown (κ := κ) (σ := s')) (gDec (iLw3_2_ok hs) 50 rfl) rfl rfl (by decide) rfl rfl rfl (Nat.le_of_ble_eq_true rfl) rfl (hR _ _ (by decide) (Nat.le_refl _)) rfl ?_
  refine go_top (v' := xC kOA (fPlace σ (gX κ (i + 1)) (gX κ (i + 2)) (gX κ (i + 3))).1) (c2) ?_
  refine go_iload (q := 2051) (gDec (iLw3_2_ok hs) 51 rfl) rfl rfl ?_
  refine go_icmp_eq (t := 2056) (q := 2054) (gDec (iLw3_2_ok hs) 52 rfl) (by decide) rfl (fun c2051 => ?_) (fun c2051 => False.elim (c2051 rfl))
  refine go_iload (q := 2058) (gDec (iLw3_2_ok hs) 55 rfl) rfl rfl ?_
  refine go_if_ne (t := 2073) (q := 2061) (gDec (iLw3_2_ok hs) 56 rfl) (by decide) rfl (fun c2058 => ?_) (fun c2058 => ?_)
  · refine go_goto (t := 2942) (gDec (iLw3_3_ok hs) 6 rfl) (by decide) ?_
    refine go_sub (L' := [(0, .ref κ.2.2.2.2.1), (1, .ref (κ.2.1 + 0)), (2, .ref (κ.2.1 + 376)), (3, .ref (κ.2.1 + 390)), (4, .ref (κ.2.1 + 391)), (5, .int (nI i))]) ⟨rfl, rfl, rfl, rfl, rfl, rfl, trivial⟩ ?_
    exact hk s' c4
  · obtain ⟨v, he⟩ := (r_place (σ := σ) (a1 := (gX κ (i + 1))) (a2 := (gX κ (i + 2))) (a3 := (gX κ (i + 3)))).resolve_right (fun h9 => h9 c2058)
    refine go_aload_n (q := 2062) (gDec (iLw3_2_ok hs) 57 rfl) rfl rfl rfl ?_
    refine go_iconst (v := 0) (q := 2063) (gDec (iLw3_2_ok hs) 58 rfl) (by decide) rfl ?_
    refine go_lald (q := 2064) (gDec (iLw3_2_ok hs) 59 rfl) rfl (by decide) vp_00 rfl ?_
    refine go_iload (q := 2066) (gDec (iLw3_3_ok hs) 0 rfl) rfl rfl ?_
    refine go_i2l (q := 2067) (gDec (iLw3_3_ok hs) 1 rfl) rfl ?_
    refine go_lcmp (q := 2068) (gDec (iLw3_3_ok hs) 2 rfl) rfl ?_
    refine go_top (v' := 0) ((lw_cmp he c3)) ?_
    refine go_if_eq (t := 2073) (q := 2071) (gDec (iLw3_3_ok hs) 3 rfl) (by decide) rfl (fun c2068 => ?_) (fun c2068 => False.elim (c2068 rfl))
    refine go_goto (t := 2942) (gDec (iLw3_3_ok hs) 6 rfl) (by decide) ?_
    refine go_sub (L' := [(0, .ref κ.2.2.2.2.1), (1, .ref (κ.2.1 + 0)), (2, .ref (κ.2.1 + 376)), (3, .ref (κ.2.1 + 390)), (4, .ref (κ.2.1 + 391)), (5, .int (nI i))]) ⟨rfl, rfl, rfl, rfl, rfl, rfl, trivial⟩ ?_
    exact hk s' c4

set_option maxHeartbeats 4000000 in
set_option maxRecDepth 100000 in
theorem lw_c23 {κ : gK} {hs : List (Nat × Nat × Nat × Nat)} {R : Room} {Z : gZ} {σ : gST} {n i : Nat} (h : gJ σ) (hi : i + 6 ≤ κ.2.2.2.2.2.1) (hL : κ.2.2.2.2.2.1 ≤ 3072) (hR : ∀ d m, d ≤ 10 → m ≤ n + 1 → gFit R d m) (hk : ∀ σ', gJ σ' → Go κ (mLw hs) R Z 2942 [(0, .ref κ.2.2.2.2.1), (1, .ref (κ.2.1 + 0)), (2, .ref (κ.2.1 + 376)), (3, .ref (κ.2.1 + 390)), (4, .ref (κ.2.1 + 391)), (5, .int (nI i))] [] σ' (n + 1)) : Go κ (mLw hs) R Z 2076 [(0, .ref κ.2.2.2.2.1), (1, .ref (κ.2.1 + 0)), (2, .ref (κ.2.1 + 376)), (3, .ref (κ.2.1 + 390)), (4, .ref (κ.2.1 + 391)), (5, .int (nI i))] [] σ n := by
  obtain ⟨s', c1, c2, c3, c4⟩ := j_isBlack (κ := κ) (σ := σ) (a1 := (gX κ (i + 1))) (a2 := (gX κ (i + 2))) (a3 := (gX κ (i + 3))) (a4 := (gX κ (i + 4))) h
  refine go_aload_n (q := 2077) (gDec (iLw3_3_ok hs) 7 rfl) rfl rfl rfl ?_
  refine go_aload_n (q := 2078) (gDec (iLw3_3_ok hs) 8 rfl) rfl rfl rfl ?_
  refine go_iload (q := 2080) (gDec (iLw3_3_ok hs) 9 rfl) rfl rfl ?_
  refine go_iconst (v := nI 1) (q := 2081) (gDec (iLw3_3_ok hs) 10 rfl) (by decide) rfl ?_
  refine go_iaddN (c := i + 1) (q := 2082) (gDec (iLw3_3_ok hs) 11 rfl) rfl rfl ?_
  refine go_sld (q := 2083) (gDec (iLw3_3_ok hs) 12 rfl) (vp_in_nI (by omega) (by omega)) rfl ?_
  refine go_top (v' := gX κ (i + 1)) (rfl) ?_
  refine go_aload_n (q := 2084) (gDec (iLw3_3_ok hs) 13 rfl) rfl rfl rfl ?_
  refine go_iload (q := 2086) (gDec (iLw3_3_ok hs) 14 rfl) rfl rfl ?_
  refine go_iconst (v := nI 2) (q := 2087) (gDec (iLw3_3_ok hs) 15 rfl) (by decide) rfl ?_
  refine go_iaddN (c := i + 2) (q := 2088) (gDec (iLw3_3_ok hs) 16 rfl) rfl rfl ?_
  refine go_sld (q := 2089) (gDec (iLw3_3_ok hs) 17 rfl) (vp_in_nI (by omega) (by omega)) rfl ?_
  refine go_top (v' := gX κ (i + 2)) (rfl) ?_
  refine go_aload_n (q := 2090) (gDec (iLw3_3_ok hs) 18 rfl) rfl rfl rfl ?_
  refine go_iload (q := 2092) (gDec (iLw3_3_ok hs) 19 rfl) rfl rfl ?_
  refine go_iconst (v := nI 3) (q := 2093) (gDec (iLw3_3_ok hs) 20 rfl) (by decide) rfl ?_
  refine go_iaddN (c := i + 3) (q := 2094) (gDec (iLw3_3_ok hs) 21 rfl) rfl rfl ?_
  refine go_sld (q := 2095) (gDec (iLw3_3_ok hs) 22 rfl) (vp_in_nI (by omega) (by omega)) rfl ?_
  refine go_top (v' := gX κ (i + 3)) (rfl) ?_
  refine go_aload_n (q := 2096) (gDec (iLw3_3_ok hs) 23 rfl) rfl rfl rfl ?_
  refine go_iload (q := 2098) (gDec (iLw3_3_ok hs) 24 rfl) rfl rfl ?_
  refine go_iconst (v := nI 4) (q := 2099) (gDec (iLw3_3_ok hs) 25 rfl) (by decide) rfl ?_
  refine go_iaddN (c := i + 4) (q := 2100) (gDec (iLw3_3_ok hs) 26 rfl) rfl rfl ?_
  refine go_sld (q := 2101) (gDec (iLw3_3_ok hs) 27 rfl) (vp_in_nI (by omega) (by omega)) rfl ?_
  refine go_top (v' := gX κ (i + 4)) (rfl) ?_
  refine go_aload_n (q := 2102) (gDec (iLw3_3_ok hs) 28 rfl) rfl rfl rfl ?_
  refine go_callH (n2 := n + 1) (q := 2105) kL_233 rfl (ctL_isBlack (κ := κ) (σ := σ) (a1 := (gX κ (i + 1))) (a2 := (gX κ (i + 2))) (a3 := (gX κ (i + 3))) (a4 := (gX κ (i + 4))) h) (gDec (iLw3_3_ok hs) 29 rfl) rfl rfl (Nat.le_of_ble_eq_true rfl) rfl (hR _ _ (by decide) (Nat.le_refl _)) rfl ?_
  refine go_istore (q := 2107) (gDec (iLw3_3_ok hs) 30 rfl) (Nat.le_of_ble_eq_true rfl) rfl ?_
  refine go_aload_n (q := 2108) (gDec (iLw3_3_ok hs) 31 rfl) rfl rfl rfl ?_
  refine go_aload_n (q := 2109) (gDec (iLw3_3_ok hs) 32 rfl) rfl rfl rfl ?_
  refine go_iload (q := 2111) (gDec (iLw3_3_ok hs) 33 rfl) rfl rfl ?_
  refine go_iconst (v := nI 1) (q := 2112) (gDec (iLw3_3_ok hs) 34 rfl) (by decide) rfl ?_
  refine go_iaddN (c := i + 1) (q := 2113) (gDec (iLw3_3_ok hs) 35 rfl) rfl rfl ?_
  refine go_sld (q := 2114) (gDec (iLw3_3_ok hs) 36 rfl) (vp_in_nI (by omega) (by omega)) rfl ?_
  refine go_top (v' := gX κ (i + 1)) (rfl) ?_
  refine go_aload_n (q := 2115) (gDec (iLw3_3_ok hs) 37 rfl) rfl rfl rfl ?_
  refine go_iload (q := 2117) (gDec (iLw3_3_ok hs) 38 rfl) rfl rfl ?_
  refine go_iconst (v := nI 2) (q := 2118) (gDec (iLw3_3_ok hs) 39 rfl) (by decide) rfl ?_
  refine go_iaddN (c := i + 2) (q := 2119) (gDec (iLw3_3_ok hs) 40 rfl) rfl rfl ?_
  refine go_sld (q := 2120) (gDec (iLw3_3_ok hs) 41 rfl) (vp_in_nI (by omega) (by omega)) rfl ?_
  refine go_top (v' := gX κ (i + 2)) (rfl) ?_
  refine go_aload_n (q := 2121) (gDec (iLw3_3_ok hs) 42 rfl) rfl rfl rfl ?_
  refine go_iload (q := 2123) (gDec (iLw3_3_ok hs) 43 rfl) rfl rfl ?_
  refine go_iconst (v := nI 3) (q := 2124) (gDec (iLw3_3_ok hs) 44 rfl) (by decide) rfl ?_
  refine go_iaddN (c := i + 3) (q := 2125) (gDec (iLw3_3_ok hs) 45 rfl) rfl rfl ?_
  refine go_sld (q := 2126) (gDec (iLw3_3_ok hs) 46 rfl) (vp_in_nI (by omega) (by omega)) rfl ?_
  refine go_top (v' := gX κ (i + 3)) (rfl) ?_
  refine go_aload_n (q := 2127) (gDec (iLw3_3_ok hs) 47 rfl) rfl rfl rfl ?_
  refine go_iload (q := 2129) (gDec (iLw3_3_ok hs) 48 rfl) rfl rfl ?_
  refine go_iconst (v := nI 4) (q := 2130) (gDec (iLw3_3_ok hs) 49 rfl) (by decide) rfl ?_
  refine go_iaddN (c := i + 4) (q := 2131) (gDec (iLw3_3_ok hs) 50 rfl) rfl rfl ?_
  refine go_sld (q := 2132) (gDec (iLw3_3_ok hs) 51 rfl) (vp_in_nI (by omega) (by omega)) rfl ?_
  refine go_top (v' := gX κ (i + 4)) (rfl) ?_
  refine go_callV (n2 := n + 1) (q := 2135) kL_236 c1 (gDec (iLw3_3_ok hs) 52 rfl) rfl rfl (by decide) rfl rfl rfl (Nat.le_of_ble_eq_true rfl) rfl (hR _ _ (by decide) (Nat.le_refl _)) rfl ?_
  refine go_istore (q := 2137) (gDec (iLw3_3_ok hs) 53 rfl) (Nat.le_of_ble_eq_true rfl) rfl ?_
  refine go_aload_n (q := 2138) (gDec (iLw3_3_ok hs) 54 rfl) rfl rfl rfl ?_
  refine go_callV (n2 := n + 1) (q := 2141) kL_157 (ctX11_thrown (κ := κ) (σ := s')) (gDec (iLw3_3_ok hs) 55 rfl) rfl rfl (by decide) rfl rfl rfl (Nat.le_of_ble_eq_true rfl) rfl (hR _ _ (by decide) (Nat.le_refl _)) rfl ?_
  refine go_top (v' := xC kOA (fIsBlack σ (gX κ (i + 1)) (gX κ (i + 2)) (gX κ (i + 3)) (gX κ (i + 4))).1) (c2) ?_
  refine go_iload (q := 2143) (gDec (iLw3_3_ok hs) 56 rfl) rfl rfl ?_
  refine go_icmp_eq (t := 2148) (q := 2146) (gDec (iLw3_3_ok hs) 57 rfl) (by decide) rfl (fun c2143 => ?_) (fun c2143 => False.elim (c2143 rfl))
  refine go_iload (q := 2150) (gDec (iLw3_4_ok hs) 0 rfl) rfl rfl ?_
  refine go_if_ne (t := 2172) (q := 2153) (gDec (iLw3_4_ok hs) 1 rfl) (by decide) rfl (fun c2150 => ?_) (fun c2150 => ?_)
  · refine go_goto (t := 2942) (gDec (iLw3_4_ok hs) 14 rfl) (by decide) ?_
    refine go_sub (L' := [(0, .ref κ.2.2.2.2.1), (1, .ref (κ.2.1 + 0)), (2, .ref (κ.2.1 + 376)), (3, .ref (κ.2.1 + 390)), (4, .ref (κ.2.1 + 391)), (5, .int (nI i))]) ⟨rfl, rfl, rfl, rfl, rfl, rfl, trivial⟩ ?_
    exact hk s' c4
  · rcases (r_isBlack (σ := σ) (a1 := (gX κ (i + 1))) (a2 := (gX κ (i + 2))) (a3 := (gX κ (i + 3))) (a4 := (gX κ (i + 4)))).resolve_right (fun h9 => h9 c2150) with he | he
    · refine go_aload_n (q := 2154) (gDec (iLw3_4_ok hs) 2 rfl) rfl rfl rfl ?_
      refine go_iconst (v := 0) (q := 2155) (gDec (iLw3_4_ok hs) 3 rfl) (by decide) rfl ?_
      refine go_lald (q := 2156) (gDec (iLw3_4_ok hs) 4 rfl) rfl (by decide) vp_00 rfl ?_
      refine go_iload (q := 2158) (gDec (iLw3_4_ok hs) 5 rfl) rfl rfl ?_
      refine go_top (v' := 0) ((by rw [he]; rfl)) ?_
      refine go_if_eq (t := 2165) (q := 2161) (gDec (iLw3_4_ok hs) 6 rfl) (by decide) rfl (fun c2158 => ?_) (fun c2158 => False.elim (c2158 rfl))
      refine go_lconst (v := 0) (q := 2166) (gDec (iLw3_4_ok hs) 9 rfl) (by decide) rfl ?_
      refine go_lcmp (q := 2167) (gDec (iLw3_4_ok hs) 10 rfl) rfl ?_
      refine go_top (v' := 0) ((lg_cmp_e (by rw [lw_out he c3]; rfl))) ?_
      refine go_if_eq (t := 2172) (q := 2170) (gDec (iLw3_4_ok hs) 11 rfl) (by decide) rfl (fun c2167 => ?_) (fun c2167 => False.elim (c2167 rfl))
      refine go_goto (t := 2942) (gDec (iLw3_4_ok hs) 14 rfl) (by decide) ?_
      refine go_sub (L' := [(0, .ref κ.2.2.2.2.1), (1, .ref (κ.2.1 + 0)), (2, .ref (κ.2.1 + 376)), (3, .ref (κ.2.1 + 390)), (4, .ref (κ.2.1 + 391)), (5, .int (nI i))]) ⟨rfl, rfl, rfl, rfl, rfl, rfl, trivial⟩ ?_
      exact hk s' c4
    · refine go_aload_n (q := 2154) (gDec (iLw3_4_ok hs) 2 rfl) rfl rfl rfl ?_
      refine go_iconst (v := 0) (q := 2155) (gDec (iLw3_4_ok hs) 3 rfl) (by decide) rfl ?_
      refine go_lald (q := 2156) (gDec (iLw3_4_ok hs) 4 rfl) rfl (by decide) vp_00 rfl ?_
      refine go_iload (q := 2158) (gDec (iLw3_4_ok hs) 5 rfl) rfl rfl ?_
      refine go_top (v' := 1) ((by rw [he]; rfl)) ?_
      refine go_if_eq (t := 2165) (q := 2161) (gDec (iLw3_4_ok hs) 6 rfl) (by decide) rfl (fun c2158 => False.elim (absurd c2158 (by decide))) (fun c2158 => ?_)
      refine go_lconst (v := 1) (q := 2162) (gDec (iLw3_4_ok hs) 7 rfl) (by decide) rfl ?_
      refine go_goto (t := 2166) (gDec (iLw3_4_ok hs) 8 rfl) (by decide) ?_
      refine go_lcmp (q := 2167) (gDec (iLw3_4_ok hs) 10 rfl) rfl ?_
      refine go_top (v' := 0) ((lg_cmp_e (by rw [lw_out he c3]; rfl))) ?_
      refine go_if_eq (t := 2172) (q := 2170) (gDec (iLw3_4_ok hs) 11 rfl) (by decide) rfl (fun c2167 => ?_) (fun c2167 => False.elim (c2167 rfl))
      refine go_goto (t := 2942) (gDec (iLw3_4_ok hs) 14 rfl) (by decide) ?_
      refine go_sub (L' := [(0, .ref κ.2.2.2.2.1), (1, .ref (κ.2.1 + 0)), (2, .ref (κ.2.1 + 376)), (3, .ref (κ.2.1 + 390)), (4, .ref (κ.2.1 + 391)), (5, .int (nI i))]) ⟨rfl, rfl, rfl, rfl, rfl, rfl, trivial⟩ ?_
      exact hk s' c4

set_option maxHeartbeats 4000000 in
set_option maxRecDepth 100000 in
theorem lw_c24 {κ : gK} {hs : List (Nat × Nat × Nat × Nat)} {R : Room} {Z : gZ} {σ : gST} {n i : Nat} (h : gJ σ) (hi : i + 6 ≤ κ.2.2.2.2.2.1) (hL : κ.2.2.2.2.2.1 ≤ 3072) (hR : ∀ d m, d ≤ 10 → m ≤ n + 1 → gFit R d m) (hk : ∀ σ', gJ σ' → Go κ (mLw hs) R Z 2942 [(0, .ref κ.2.2.2.2.1), (1, .ref (κ.2.1 + 0)), (2, .ref (κ.2.1 + 376)), (3, .ref (κ.2.1 + 390)), (4, .ref (κ.2.1 + 391)), (5, .int (nI i))] [] σ' (n + 1)) : Go κ (mLw hs) R Z 2175 [(0, .ref κ.2.2.2.2.1), (1, .ref (κ.2.1 + 0)), (2, .ref (κ.2.1 + 376)), (3, .ref (κ.2.1 + 390)), (4, .ref (κ.2.1 + 391)), (5, .int (nI i))] [] σ n := by
  obtain ⟨s', c1, c2, c3, c4⟩ := j_blackPixels (κ := κ) (σ := σ) (a1 := (gX κ (i + 1))) (a2 := (gX κ (i + 2))) h
  refine go_aload_n (q := 2176) (gDec (iLw3_4_ok hs) 15 rfl) rfl rfl rfl ?_
  refine go_aload_n (q := 2177) (gDec (iLw3_4_ok hs) 16 rfl) rfl rfl rfl ?_
  refine go_iload (q := 2179) (gDec (iLw3_4_ok hs) 17 rfl) rfl rfl ?_
  refine go_iconst (v := nI 1) (q := 2180) (gDec (iLw3_4_ok hs) 18 rfl) (by decide) rfl ?_
  refine go_iaddN (c := i + 1) (q := 2181) (gDec (iLw3_4_ok hs) 19 rfl) rfl rfl ?_
  refine go_sld (q := 2182) (gDec (iLw3_4_ok hs) 20 rfl) (vp_in_nI (by omega) (by omega)) rfl ?_
  refine go_top (v' := gX κ (i + 1)) (rfl) ?_
  refine go_aload_n (q := 2183) (gDec (iLw3_4_ok hs) 21 rfl) rfl rfl rfl ?_
  refine go_iload (q := 2185) (gDec (iLw3_4_ok hs) 22 rfl) rfl rfl ?_
  refine go_iconst (v := nI 2) (q := 2186) (gDec (iLw3_4_ok hs) 23 rfl) (by decide) rfl ?_
  refine go_iaddN (c := i + 2) (q := 2187) (gDec (iLw3_4_ok hs) 24 rfl) rfl rfl ?_
  refine go_sld (q := 2188) (gDec (iLw3_4_ok hs) 25 rfl) (vp_in_nI (by omega) (by omega)) rfl ?_
  refine go_top (v' := gX κ (i + 2)) (rfl) ?_
  refine go_aload_n (q := 2189) (gDec (iLw3_4_ok hs) 26 rfl) rfl rfl rfl ?_
  refine go_callH (n2 := n + 1) (q := 2192) kL_237 rfl (ctL_blackPixels (κ := κ) (σ := σ) (a1 := (gX κ (i + 1))) (a2 := (gX κ (i + 2))) h) (gDec (iLw3_4_ok hs) 27 rfl) rfl rfl (Nat.le_of_ble_eq_true rfl) rfl (hR _ _ (by decide) (Nat.le_refl _)) rfl ?_
  refine go_istore (q := 2194) (gDec (iLw3_4_ok hs) 28 rfl) (Nat.le_of_ble_eq_true rfl) rfl ?_
  refine go_aload_n (q := 2195) (gDec (iLw3_4_ok hs) 29 rfl) rfl rfl rfl ?_
  refine go_aload_n (q := 2196) (gDec (iLw3_4_ok hs) 30 rfl) rfl rfl rfl ?_
  refine go_iload (q := 2198) (gDec (iLw3_4_ok hs) 31 rfl) rfl rfl ?_
  refine go_iconst (v := nI 1) (q := 2199) (gDec (iLw3_4_ok hs) 32 rfl) (by decide) rfl ?_
  refine go_iaddN (c := i + 1) (q := 2200) (gDec (iLw3_4_ok hs) 33 rfl) rfl rfl ?_
  refine go_sld (q := 2201) (gDec (iLw3_4_ok hs) 34 rfl) (vp_in_nI (by omega) (by omega)) rfl ?_
  refine go_top (v' := gX κ (i + 1)) (rfl) ?_
  refine go_aload_n (q := 2202) (gDec (iLw3_4_ok hs) 35 rfl) rfl rfl rfl ?_
  refine go_iload (q := 2204) (gDec (iLw3_4_ok hs) 36 rfl) rfl rfl ?_
  refine go_iconst (v := nI 2) (q := 2205) (gDec (iLw3_4_ok hs) 37 rfl) (by decide) rfl ?_
  refine go_iaddN (c := i + 2) (q := 2206) (gDec (iLw3_4_ok hs) 38 rfl) rfl rfl ?_
  refine go_sld (q := 2207) (gDec (iLw3_4_ok hs) 39 rfl) (vp_in_nI (by omega) (by omega)) rfl ?_
  refine go_top (v' := gX κ (i + 2)) (rfl) ?_
  refine go_callV (n2 := n + 1) (q := 2210) kL_239 c1 (gDec (iLw3_4_ok hs) 40 rfl) rfl rfl (by decide) rfl rfl rfl (Nat.le_of_ble_eq_true rfl) rfl (hR _ _ (by decide) (Nat.le_refl _)) rfl ?_
  refine go_istore (q := 2212) (gDec (iLw3_4_ok hs) 41 rfl) (Nat.le_of_ble_eq_true rfl) rfl ?_
  refine go_aload_n (q := 2213) (gDec (iLw3_4_ok hs) 42 rfl) rfl rfl rfl ?_
  refine go_callV (n2 := n + 1) (q := 2216) kL_157 (ctX11_thrown (κ := κ) (σ := s')) (gDec (iLw3_4_ok hs) 43 rfl) rfl rfl (by decide) rfl rfl rfl (Nat.le_of_ble_eq_true rfl) rfl (hR _ _ (by decide) (Nat.le_refl _)) rfl ?_
  refine go_top (v' := xC kOA (fBlackPixels σ (gX κ (i + 1)) (gX κ (i + 2))).1) (c2) ?_
  refine go_iload (q := 2218) (gDec (iLw3_4_ok hs) 44 rfl) rfl rfl ?_
  refine go_icmp_eq (t := 2223) (q := 2221) (gDec (iLw3_4_ok hs) 45 rfl) (by decide) rfl (fun c2218 => ?_) (fun c2218 => False.elim (c2218 rfl))
  refine go_iload (q := 2225) (gDec (iLw3_4_ok hs) 48 rfl) rfl rfl ?_
  refine go_if_ne (t := 2240) (q := 2228) (gDec (iLw3_4_ok hs) 49 rfl) (by decide) rfl (fun c2225 => ?_) (fun c2225 => ?_)
  · refine go_goto (t := 2942) (gDec (iLw3_4_ok hs) 59 rfl) (by decide) ?_
    refine go_sub (L' := [(0, .ref κ.2.2.2.2.1), (1, .ref (κ.2.1 + 0)), (2, .ref (κ.2.1 + 376)), (3, .ref (κ.2.1 + 390)), (4, .ref (κ.2.1 + 391)), (5, .int (nI i))]) ⟨rfl, rfl, rfl, rfl, rfl, rfl, trivial⟩ ?_
    exact hk s' c4
  · obtain ⟨v, he⟩ := (r_blackPixels (σ := σ) (a1 := (gX κ (i + 1))) (a2 := (gX κ (i + 2)))).resolve_right (fun h9 => h9 c2225)
    refine go_aload_n (q := 2229) (gDec (iLw3_4_ok hs) 50 rfl) rfl rfl rfl ?_
    refine go_iconst (v := 0) (q := 2230) (gDec (iLw3_4_ok hs) 51 rfl) (by decide) rfl ?_
    refine go_lald (q := 2231) (gDec (iLw3_4_ok hs) 52 rfl) rfl (by decide) vp_00 rfl ?_
    refine go_iload (q := 2233) (gDec (iLw3_4_ok hs) 53 rfl) rfl rfl ?_
    refine go_i2l (q := 2234) (gDec (iLw3_4_ok hs) 54 rfl) rfl ?_
    refine go_lcmp (q := 2235) (gDec (iLw3_4_ok hs) 55 rfl) rfl ?_
    refine go_top (v' := 0) ((lw_cmp he c3)) ?_
    refine go_if_eq (t := 2240) (q := 2238) (gDec (iLw3_4_ok hs) 56 rfl) (by decide) rfl (fun c2235 => ?_) (fun c2235 => False.elim (c2235 rfl))
    refine go_goto (t := 2942) (gDec (iLw3_4_ok hs) 59 rfl) (by decide) ?_
    refine go_sub (L' := [(0, .ref κ.2.2.2.2.1), (1, .ref (κ.2.1 + 0)), (2, .ref (κ.2.1 + 376)), (3, .ref (κ.2.1 + 390)), (4, .ref (κ.2.1 + 391)), (5, .int (nI i))]) ⟨rfl, rfl, rfl, rfl, rfl, rfl, trivial⟩ ?_
    exact hk s' c4

set_option maxHeartbeats 4000000 in
set_option maxRecDepth 100000 in
theorem lw_c25 {κ : gK} {hs : List (Nat × Nat × Nat × Nat)} {R : Room} {Z : gZ} {σ : gST} {n i : Nat} (h : gJ σ) (hi : i + 6 ≤ κ.2.2.2.2.2.1) (hL : κ.2.2.2.2.2.1 ≤ 3072) (hR : ∀ d m, d ≤ 10 → m ≤ n + 1 → gFit R d m) (hk : ∀ σ', gJ σ' → Go κ (mLw hs) R Z 2942 [(0, .ref κ.2.2.2.2.1), (1, .ref (κ.2.1 + 0)), (2, .ref (κ.2.1 + 376)), (3, .ref (κ.2.1 + 390)), (4, .ref (κ.2.1 + 391)), (5, .int (nI i))] [] σ' (n + 1)) : Go κ (mLw hs) R Z 2243 [(0, .ref κ.2.2.2.2.1), (1, .ref (κ.2.1 + 0)), (2, .ref (κ.2.1 + 376)), (3, .ref (κ.2.1 + 390)), (4, .ref (κ.2.1 + 391)), (5, .int (nI i))] [] σ n := by
  obtain ⟨s', c1, c2, c3, c4⟩ := j_setProof (κ := κ) (σ := σ) (a1 := (gX κ (i + 1))) (a2 := (gX κ (i + 2))) h
  refine go_aload_n (q := 2244) (gDec (iLw3_5_ok hs) 0 rfl) rfl rfl rfl ?_
  refine go_aload_n (q := 2245) (gDec (iLw3_5_ok hs) 1 rfl) rfl rfl rfl ?_
  refine go_iload (q := 2247) (gDec (iLw3_5_ok hs) 2 rfl) rfl rfl ?_
  refine go_iconst (v := nI 1) (q := 2248) (gDec (iLw3_5_ok hs) 3 rfl) (by decide) rfl ?_
  refine go_iaddN (c := i + 1) (q := 2249) (gDec (iLw3_5_ok hs) 4 rfl) rfl rfl ?_
  refine go_sld (q := 2250) (gDec (iLw3_5_ok hs) 5 rfl) (vp_in_nI (by omega) (by omega)) rfl ?_
  refine go_top (v' := gX κ (i + 1)) (rfl) ?_
  refine go_aload_n (q := 2251) (gDec (iLw3_5_ok hs) 6 rfl) rfl rfl rfl ?_
  refine go_iload (q := 2253) (gDec (iLw3_5_ok hs) 7 rfl) rfl rfl ?_
  refine go_iconst (v := nI 2) (q := 2254) (gDec (iLw3_5_ok hs) 8 rfl) (by decide) rfl ?_
  refine go_iaddN (c := i + 2) (q := 2255) (gDec (iLw3_5_ok hs) 9 rfl) rfl rfl ?_
  refine go_sld (q := 2256) (gDec (iLw3_5_ok hs) 10 rfl) (vp_in_nI (by omega) (by omega)) rfl ?_
  refine go_top (v' := gX κ (i + 2)) (rfl) ?_
  refine go_aload_n (q := 2257) (gDec (iLw3_5_ok hs) 11 rfl) rfl rfl rfl ?_
  refine go_callH (n2 := n + 1) (q := 2260) kL_240 rfl (ctL_setProof (κ := κ) (σ := σ) (a1 := (gX κ (i + 1))) (a2 := (gX κ (i + 2))) h) (gDec (iLw3_5_ok hs) 12 rfl) rfl rfl (Nat.le_of_ble_eq_true rfl) rfl (hR _ _ (by decide) (Nat.le_refl _)) rfl ?_
  refine go_istore (q := 2262) (gDec (iLw3_5_ok hs) 13 rfl) (Nat.le_of_ble_eq_true rfl) rfl ?_
  refine go_aload_n (q := 2263) (gDec (iLw3_5_ok hs) 14 rfl) rfl rfl rfl ?_
  refine go_aload_n (q := 2264) (gDec (iLw3_5_ok hs) 15 rfl) rfl rfl rfl ?_
  refine go_iload (q := 2266) (gDec (iLw3_5_ok hs) 16 rfl) rfl rfl ?_
  refine go_iconst (v := nI 1) (q := 2267) (gDec (iLw3_5_ok hs) 17 rfl) (by decide) rfl ?_
  refine go_iaddN (c := i + 1) (q := 2268) (gDec (iLw3_5_ok hs) 18 rfl) rfl rfl ?_
  refine go_sld (q := 2269) (gDec (iLw3_5_ok hs) 19 rfl) (vp_in_nI (by omega) (by omega)) rfl ?_
  refine go_top (v' := gX κ (i + 1)) (rfl) ?_
  refine go_aload_n (q := 2270) (gDec (iLw3_5_ok hs) 20 rfl) rfl rfl rfl ?_
  refine go_iload (q := 2272) (gDec (iLw3_5_ok hs) 21 rfl) rfl rfl ?_
  refine go_iconst (v := nI 2) (q := 2273) (gDec (iLw3_5_ok hs) 22 rfl) (by decide) rfl ?_
  refine go_iaddN (c := i + 2) (q := 2274) (gDec (iLw3_5_ok hs) 23 rfl) rfl rfl ?_
  refine go_sld (q := 2275) (gDec (iLw3_5_ok hs) 24 rfl) (vp_in_nI (by omega) (by omega)) rfl ?_
  refine go_top (v' := gX κ (i + 2)) (rfl) ?_
  refine go_callV (n2 := n + 1) (q := 2278) kL_242 c1 (gDec (iLw3_5_ok hs) 25 rfl) rfl rfl (by decide) rfl rfl rfl (Nat.le_of_ble_eq_true rfl) rfl (hR _ _ (by decide) (Nat.le_refl _)) rfl ?_
  refine go_istore (q := 2280) (gDec (iLw3_5_ok hs) 26 rfl) (Nat.le_of_ble_eq_true rfl) rfl ?_
  refine go_aload_n (q := 2281) (gDec (iLw3_5_ok hs) 27 rfl) rfl rfl rfl ?_
  refine go_callV (n2 := n + 1) (q := 2284) kL_157 (ctX11_thrown (κ := κ) (σ := s')) (gDec (iLw3_5_ok hs) 28 rfl) rfl rfl (by decide) rfl rfl rfl (Nat.le_of_ble_eq_true rfl) rfl (hR _ _ (by decide) (Nat.le_refl _)) rfl ?_
  refine go_top (v' := xC kA (fSetProof σ (gX κ (i + 1)) (gX κ (i + 2))).1) (c2) ?_
  refine go_iload (q := 2286) (gDec (iLw3_5_ok hs) 29 rfl) rfl rfl ?_
  refine go_icmp_eq (t := 2291) (q := 2289) (gDec (iLw3_5_ok hs) 30 rfl) (by decide) rfl (fun c2286 => ?_) (fun c2286 => False.elim (c2286 rfl))
  refine go_iload (q := 2293) (gDec (iLw3_5_ok hs) 33 rfl) rfl rfl ?_
  refine go_if_ne (t := 2308) (q := 2296) (gDec (iLw3_5_ok hs) 34 rfl) (by decide) rfl (fun c2293 => ?_) (fun c2293 => ?_)
  · refine go_goto (t := 2942) (gDec (iLw3_5_ok hs) 44 rfl) (by decide) ?_
    refine go_sub (L' := [(0, .ref κ.2.2.2.2.1), (1, .ref (κ.2.1 + 0)), (2, .ref (κ.2.1 + 376)), (3, .ref (κ.2.1 + 390)), (4, .ref (κ.2.1 + 391)), (5, .int (nI i))]) ⟨rfl, rfl, rfl, rfl, rfl, rfl, trivial⟩ ?_
    exact hk s' c4
  · obtain ⟨v, he⟩ := (r_setProof (σ := σ) (a1 := (gX κ (i + 1))) (a2 := (gX κ (i + 2)))).resolve_right (fun h9 => h9 c2293)
    refine go_aload_n (q := 2297) (gDec (iLw3_5_ok hs) 35 rfl) rfl rfl rfl ?_
    refine go_iconst (v := 0) (q := 2298) (gDec (iLw3_5_ok hs) 36 rfl) (by decide) rfl ?_
    refine go_lald (q := 2299) (gDec (iLw3_5_ok hs) 37 rfl) rfl (by decide) vp_00 rfl ?_
    refine go_iload (q := 2301) (gDec (iLw3_5_ok hs) 38 rfl) rfl rfl ?_
    refine go_i2l (q := 2302) (gDec (iLw3_5_ok hs) 39 rfl) rfl ?_
    refine go_lcmp (q := 2303) (gDec (iLw3_5_ok hs) 40 rfl) rfl ?_
    refine go_top (v' := 0) ((lw_cmp he c3)) ?_
    refine go_if_eq (t := 2308) (q := 2306) (gDec (iLw3_5_ok hs) 41 rfl) (by decide) rfl (fun c2303 => ?_) (fun c2303 => False.elim (c2303 rfl))
    refine go_goto (t := 2942) (gDec (iLw3_5_ok hs) 44 rfl) (by decide) ?_
    refine go_sub (L' := [(0, .ref κ.2.2.2.2.1), (1, .ref (κ.2.1 + 0)), (2, .ref (κ.2.1 + 376)), (3, .ref (κ.2.1 + 390)), (4, .ref (κ.2.1 + 391)), (5, .int (nI i))]) ⟨rfl, rfl, rfl, rfl, rfl, rfl, trivial⟩ ?_
    exact hk s' c4

set_option maxHeartbeats 4000000 in
set_option maxRecDepth 100000 in
theorem lw_c26 {κ : gK} {hs : List (Nat × Nat × Nat × Nat)} {R : Room} {Z : gZ} {σ : gST} {n i : Nat} (h : gJ σ) (hi : i + 6 ≤ κ.2.2.2.2.2.1) (hL : κ.2.2.2.2.2.1 ≤ 3072) (hR : ∀ d m, d ≤ 10 → m ≤ n + 1 → gFit R d m) (hk : ∀ σ', gJ σ' → Go κ (mLw hs) R Z 2942 [(0, .ref κ.2.2.2.2.1), (1, .ref (κ.2.1 + 0)), (2, .ref (κ.2.1 + 376)), (3, .ref (κ.2.1 + 390)), (4, .ref (κ.2.1 + 391)), (5, .int (nI i))] [] σ' (n + 1)) : Go κ (mLw hs) R Z 2311 [(0, .ref κ.2.2.2.2.1), (1, .ref (κ.2.1 + 0)), (2, .ref (κ.2.1 + 376)), (3, .ref (κ.2.1 + 390)), (4, .ref (κ.2.1 + 391)), (5, .int (nI i))] [] σ n := by
  obtain ⟨s', c1, c2, c3, c4⟩ := j_append (κ := κ) (σ := σ) (a1 := ((gX κ (i + 1)).toUInt32 % 65536).toInt32) (hc := i2c_r _) h
  refine go_aload_n (q := 2312) (gDec (iLw3_5_ok hs) 45 rfl) rfl rfl rfl ?_
  refine go_aload_n (q := 2313) (gDec (iLw3_5_ok hs) 46 rfl) rfl rfl rfl ?_
  refine go_iload (q := 2315) (gDec (iLw3_5_ok hs) 47 rfl) rfl rfl ?_
  refine go_iconst (v := nI 1) (q := 2316) (gDec (iLw3_5_ok hs) 48 rfl) (by decide) rfl ?_
  refine go_iaddN (c := i + 1) (q := 2317) (gDec (iLw3_5_ok hs) 49 rfl) rfl rfl ?_
  refine go_sld (q := 2318) (gDec (iLw3_5_ok hs) 50 rfl) (vp_in_nI (by omega) (by omega)) rfl ?_
  refine go_top (v' := gX κ (i + 1)) (rfl) ?_
  refine go_i2c (q := 2319) (gDec (iLw3_5_ok hs) 51 rfl) rfl ?_
  refine go_callH (n2 := n + 1) (q := 2322) kL_243 rfl (ctL_append (κ := κ) (σ := σ) (a1 := ((gX κ (i + 1)).toUInt32 % 65536).toInt32) h) (gDec (iLw3_5_ok hs) 52 rfl) rfl rfl (Nat.le_of_ble_eq_true rfl) rfl (hR _ _ (by decide) (Nat.le_refl _)) rfl ?_
  refine go_istore (q := 2324) (gDec (iLw3_5_ok hs) 53 rfl) (Nat.le_of_ble_eq_true rfl) rfl ?_
  refine go_aload_n (q := 2325) (gDec (iLw3_5_ok hs) 54 rfl) rfl rfl rfl ?_
  refine go_aload_n (q := 2326) (gDec (iLw3_5_ok hs) 55 rfl) rfl rfl rfl ?_
  refine go_iload (q := 2328) (gDec (iLw3_5_ok hs) 56 rfl) rfl rfl ?_
  refine go_iconst (v := nI 1) (q := 2329) (gDec (iLw3_5_ok hs) 57 rfl) (by decide) rfl ?_
  refine go_iaddN (c := i + 1) (q := 2330) (gDec (iLw3_5_ok hs) 58 rfl) rfl rfl ?_
  refine go_sld (q := 2331) (gDec (iLw3_5_ok hs) 59 rfl) (vp_in_nI (by omega) (by omega)) rfl ?_
  refine go_top (v' := gX κ (i + 1)) (rfl) ?_
  refine go_i2c (q := 2332) (gDec (iLw3_6_ok hs) 0 rfl) rfl ?_
  refine go_callV (n2 := n + 1) (q := 2335) kL_246 c1 (gDec (iLw3_6_ok hs) 1 rfl) rfl rfl (by decide) rfl rfl rfl (Nat.le_of_ble_eq_true rfl) rfl (hR _ _ (by decide) (Nat.le_refl _)) rfl ?_
  refine go_aload_n (q := 2336) (gDec (iLw3_6_ok hs) 2 rfl) rfl rfl rfl ?_
  refine go_callV (n2 := n + 1) (q := 2339) kL_157 (ctX11_thrown (κ := κ) (σ := s')) (gDec (iLw3_6_ok hs) 3 rfl) rfl rfl (by decide) rfl rfl rfl (Nat.le_of_ble_eq_true rfl) rfl (hR _ _ (by decide) (Nat.le_refl _)) rfl ?_
  refine go_top (v' := xC kS (fAppend σ ((gX κ (i + 1)).toUInt32 % 65536).toInt32).1) (c2) ?_
  refine go_iload (q := 2341) (gDec (iLw3_6_ok hs) 4 rfl) rfl rfl ?_
  refine go_icmp_eq (t := 2346) (q := 2344) (gDec (iLw3_6_ok hs) 5 rfl) (by decide) rfl (fun c2341 => ?_) (fun c2341 => False.elim (c2341 rfl))
  refine go_goto (t := 2942) (gDec (iLw4_0_ok hs) 2 rfl) (by decide) ?_
  refine go_sub (L' := [(0, .ref κ.2.2.2.2.1), (1, .ref (κ.2.1 + 0)), (2, .ref (κ.2.1 + 376)), (3, .ref (κ.2.1 + 390)), (4, .ref (κ.2.1 + 391)), (5, .int (nI i))]) ⟨rfl, rfl, rfl, rfl, rfl, rfl, trivial⟩ ?_
  exact hk s' c4

set_option maxHeartbeats 4000000 in
set_option maxRecDepth 100000 in
theorem lw_c27 {κ : gK} {hs : List (Nat × Nat × Nat × Nat)} {R : Room} {Z : gZ} {σ : gST} {n i : Nat} (h : gJ σ) (hi : i + 6 ≤ κ.2.2.2.2.2.1) (hL : κ.2.2.2.2.2.1 ≤ 3072) (hR : ∀ d m, d ≤ 10 → m ≤ n + 1 → gFit R d m) (hk : ∀ σ', gJ σ' → Go κ (mLw hs) R Z 2942 [(0, .ref κ.2.2.2.2.1), (1, .ref (κ.2.1 + 0)), (2, .ref (κ.2.1 + 376)), (3, .ref (κ.2.1 + 390)), (4, .ref (κ.2.1 + 391)), (5, .int (nI i))] [] σ' (n + 1)) : Go κ (mLw hs) R Z 2349 [(0, .ref κ.2.2.2.2.1), (1, .ref (κ.2.1 + 0)), (2, .ref (κ.2.1 + 376)), (3, .ref (κ.2.1 + 390)), (4, .ref (κ.2.1 + 391)), (5, .int (nI i))] [] σ n := by
  obtain ⟨s', c1, c2, c3, c4⟩ := j_takeProof (κ := κ) (σ := σ) h
  refine go_aload_n (q := 2350) (gDec (iLw4_0_ok hs) 3 rfl) rfl rfl rfl ?_
  refine go_aload_n (q := 2351) (gDec (iLw4_0_ok hs) 4 rfl) rfl rfl rfl ?_
  refine go_callH (n2 := n + 1) (q := 2354) kL_247 rfl (ctL_takeProof (κ := κ) (σ := σ) h) (gDec (iLw4_0_ok hs) 5 rfl) rfl rfl (Nat.le_of_ble_eq_true rfl) rfl (hR _ _ (by decide) (Nat.le_refl _)) rfl ?_
  refine go_istore (q := 2356) (gDec (iLw4_0_ok hs) 6 rfl) (Nat.le_of_ble_eq_true rfl) rfl ?_
  refine go_aload_n (q := 2357) (gDec (iLw4_0_ok hs) 7 rfl) rfl rfl rfl ?_
  refine go_callV (n2 := n + 1) (q := 2360) kL_250 c1 (gDec (iLw4_0_ok hs) 8 rfl) rfl rfl (by decide) rfl rfl rfl (Nat.le_of_ble_eq_true rfl) rfl (hR _ _ (by decide) (Nat.le_refl _)) rfl ?_
  refine go_istore (q := 2362) (gDec (iLw4_0_ok hs) 9 rfl) (Nat.le_of_ble_eq_true rfl) rfl ?_
  refine go_aload_n (q := 2363) (gDec (iLw4_0_ok hs) 10 rfl) rfl rfl rfl ?_
  refine go_callV (n2 := n + 1) (q := 2366) kL_157 (ctX11_thrown (κ := κ) (σ := s')) (gDec (iLw4_0_ok hs) 11 rfl) rfl rfl (by decide) rfl rfl rfl (Nat.le_of_ble_eq_true rfl) rfl (hR _ _ (by decide) (Nat.le_refl _)) rfl ?_
  refine go_top (v' := xC kA (fTakeProof σ).1) (c2) ?_
  refine go_iload (q := 2368) (gDec (iLw4_0_ok hs) 12 rfl) rfl rfl ?_
  refine go_icmp_eq (t := 2373) (q := 2371) (gDec (iLw4_0_ok hs) 13 rfl) (by decide) rfl (fun c2368 => ?_) (fun c2368 => False.elim (c2368 rfl))
  refine go_iload (q := 2375) (gDec (iLw4_0_ok hs) 16 rfl) rfl rfl ?_
  refine go_if_ne (t := 2390) (q := 2378) (gDec (iLw4_0_ok hs) 17 rfl) (by decide) rfl (fun c2375 => ?_) (fun c2375 => ?_)
  · refine go_goto (t := 2942) (gDec (iLw4_0_ok hs) 27 rfl) (by decide) ?_
    refine go_sub (L' := [(0, .ref κ.2.2.2.2.1), (1, .ref (κ.2.1 + 0)), (2, .ref (κ.2.1 + 376)), (3, .ref (κ.2.1 + 390)), (4, .ref (κ.2.1 + 391)), (5, .int (nI i))]) ⟨rfl, rfl, rfl, rfl, rfl, rfl, trivial⟩ ?_
    exact hk s' c4
  · obtain ⟨v, he⟩ := (r_takeProof (σ := σ)).resolve_right (fun h9 => h9 c2375)
    refine go_aload_n (q := 2379) (gDec (iLw4_0_ok hs) 18 rfl) rfl rfl rfl ?_
    refine go_iconst (v := 0) (q := 2380) (gDec (iLw4_0_ok hs) 19 rfl) (by decide) rfl ?_
    refine go_lald (q := 2381) (gDec (iLw4_0_ok hs) 20 rfl) rfl (by decide) vp_00 rfl ?_
    refine go_iload (q := 2383) (gDec (iLw4_0_ok hs) 21 rfl) rfl rfl ?_
    refine go_i2l (q := 2384) (gDec (iLw4_0_ok hs) 22 rfl) rfl ?_
    refine go_lcmp (q := 2385) (gDec (iLw4_0_ok hs) 23 rfl) rfl ?_
    refine go_top (v' := 0) ((lw_cmp he c3)) ?_
    refine go_if_eq (t := 2390) (q := 2388) (gDec (iLw4_0_ok hs) 24 rfl) (by decide) rfl (fun c2385 => ?_) (fun c2385 => False.elim (c2385 rfl))
    refine go_goto (t := 2942) (gDec (iLw4_0_ok hs) 27 rfl) (by decide) ?_
    refine go_sub (L' := [(0, .ref κ.2.2.2.2.1), (1, .ref (κ.2.1 + 0)), (2, .ref (κ.2.1 + 376)), (3, .ref (κ.2.1 + 390)), (4, .ref (κ.2.1 + 391)), (5, .int (nI i))]) ⟨rfl, rfl, rfl, rfl, rfl, rfl, trivial⟩ ?_
    exact hk s' c4

set_option maxHeartbeats 4000000 in
set_option maxRecDepth 100000 in
theorem lw_c28 {κ : gK} {hs : List (Nat × Nat × Nat × Nat)} {R : Room} {Z : gZ} {σ : gST} {n i : Nat} (h : gJ σ) (hi : i + 6 ≤ κ.2.2.2.2.2.1) (hL : κ.2.2.2.2.2.1 ≤ 3072) (hR : ∀ d m, d ≤ 10 → m ≤ n + 1 → gFit R d m) (hk : ∀ σ', gJ σ' → Go κ (mLw hs) R Z 2942 [(0, .ref κ.2.2.2.2.1), (1, .ref (κ.2.1 + 0)), (2, .ref (κ.2.1 + 376)), (3, .ref (κ.2.1 + 390)), (4, .ref (κ.2.1 + 391)), (5, .int (nI i))] [] σ' (n + 1)) : Go κ (mLw hs) R Z 2393 [(0, .ref κ.2.2.2.2.1), (1, .ref (κ.2.1 + 0)), (2, .ref (κ.2.1 + 376)), (3, .ref (κ.2.1 + 390)), (4, .ref (κ.2.1 + 391)), (5, .int (nI i))] [] σ n := by
  obtain ⟨s', c1, c2, c3, c4⟩ := j_proofWidth (κ := κ) (σ := σ) h
  refine go_aload_n (q := 2394) (gDec (iLw4_0_ok hs) 28 rfl) rfl rfl rfl ?_
  refine go_aload_n (q := 2395) (gDec (iLw4_0_ok hs) 29 rfl) rfl rfl rfl ?_
  refine go_callH (n2 := n + 1) (q := 2398) kL_251 rfl (ctL_proofWidth (κ := κ) (σ := σ) h) (gDec (iLw4_0_ok hs) 30 rfl) rfl rfl (Nat.le_of_ble_eq_true rfl) rfl (hR _ _ (by decide) (Nat.le_refl _)) rfl ?_
  refine go_istore (q := 2400) (gDec (iLw4_0_ok hs) 31 rfl) (Nat.le_of_ble_eq_true rfl) rfl ?_
  refine go_aload_n (q := 2401) (gDec (iLw4_0_ok hs) 32 rfl) rfl rfl rfl ?_
  refine go_callV (n2 := n + 1) (q := 2404) kL_253 c1 (gDec (iLw4_0_ok hs) 33 rfl) rfl rfl (by decide) rfl rfl rfl (Nat.le_of_ble_eq_true rfl) rfl (hR _ _ (by decide) (Nat.le_refl _)) rfl ?_
  refine go_istore (q := 2406) (gDec (iLw4_0_ok hs) 34 rfl) (Nat.le_of_ble_eq_true rfl) rfl ?_
  refine go_aload_n (q := 2407) (gDec (iLw4_0_ok hs) 35 rfl) rfl rfl rfl ?_
  refine go_callV (n2 := n + 1) (q := 2410) kL_157 (ctX11_thrown (κ := κ) (σ := s')) (gDec (iLw4_0_ok hs) 36 rfl) rfl rfl (by decide) rfl rfl rfl (Nat.le_of_ble_eq_true rfl) rfl (hR _ _ (by decide) (Nat.le_refl _)) rfl ?_
  refine go_top (v' := xC kN (fProofWidth σ).1) (c2) ?_
  refine go_iload (q := 2412) (gDec (iLw4_0_ok hs) 37 rfl) rfl rfl ?_
  refine go_icmp_eq (t := 2417) (q := 2415) (gDec (iLw4_0_ok hs) 38 rfl) (by decide) rfl (fun c2412 => ?_) (fun c2412 => False.elim (c2412 rfl))
  refine go_iload (q := 2419) (gDec (iLw4_0_ok hs) 41 rfl) rfl rfl ?_
  refine go_if_ne (t := 2434) (q := 2422) (gDec (iLw4_0_ok hs) 42 rfl) (by decide) rfl (fun c2419 => ?_) (fun c2419 => ?_)
  · refine go_goto (t := 2942) (gDec (iLw4_0_ok hs) 52 rfl) (by decide) ?_
    refine go_sub (L' := [(0, .ref κ.2.2.2.2.1), (1, .ref (κ.2.1 + 0)), (2, .ref (κ.2.1 + 376)), (3, .ref (κ.2.1 + 390)), (4, .ref (κ.2.1 + 391)), (5, .int (nI i))]) ⟨rfl, rfl, rfl, rfl, rfl, rfl, trivial⟩ ?_
    exact hk s' c4
  · obtain ⟨v, he⟩ := (r_proofWidth (σ := σ)).resolve_right (fun h9 => h9 c2419)
    refine go_aload_n (q := 2423) (gDec (iLw4_0_ok hs) 43 rfl) rfl rfl rfl ?_
    refine go_iconst (v := 0) (q := 2424) (gDec (iLw4_0_ok hs) 44 rfl) (by decide) rfl ?_
    refine go_lald (q := 2425) (gDec (iLw4_0_ok hs) 45 rfl) rfl (by decide) vp_00 rfl ?_
    refine go_iload (q := 2427) (gDec (iLw4_0_ok hs) 46 rfl) rfl rfl ?_
    refine go_i2l (q := 2428) (gDec (iLw4_0_ok hs) 47 rfl) rfl ?_
    refine go_lcmp (q := 2429) (gDec (iLw4_0_ok hs) 48 rfl) rfl ?_
    refine go_top (v' := 0) ((lw_cmp he c3)) ?_
    refine go_if_eq (t := 2434) (q := 2432) (gDec (iLw4_0_ok hs) 49 rfl) (by decide) rfl (fun c2429 => ?_) (fun c2429 => False.elim (c2429 rfl))
    refine go_goto (t := 2942) (gDec (iLw4_0_ok hs) 52 rfl) (by decide) ?_
    refine go_sub (L' := [(0, .ref κ.2.2.2.2.1), (1, .ref (κ.2.1 + 0)), (2, .ref (κ.2.1 + 376)), (3, .ref (κ.2.1 + 390)), (4, .ref (κ.2.1 + 391)), (5, .int (nI i))]) ⟨rfl, rfl, rfl, rfl, rfl, rfl, trivial⟩ ?_
    exact hk s' c4

set_option maxHeartbeats 4000000 in
set_option maxRecDepth 100000 in
theorem lw_c29 {κ : gK} {hs : List (Nat × Nat × Nat × Nat)} {R : Room} {Z : gZ} {σ : gST} {n i : Nat} (h : gJ σ) (hi : i + 6 ≤ κ.2.2.2.2.2.1) (hL : κ.2.2.2.2.2.1 ≤ 3072) (hR : ∀ d m, d ≤ 10 → m ≤ n + 1 → gFit R d m) (hk : ∀ σ', gJ σ' → Go κ (mLw hs) R Z 2942 [(0, .ref κ.2.2.2.2.1), (1, .ref (κ.2.1 + 0)), (2, .ref (κ.2.1 + 376)), (3, .ref (κ.2.1 + 390)), (4, .ref (κ.2.1 + 391)), (5, .int (nI i))] [] σ' (n + 1)) : Go κ (mLw hs) R Z 2437 [(0, .ref κ.2.2.2.2.1), (1, .ref (κ.2.1 + 0)), (2, .ref (κ.2.1 + 376)), (3, .ref (κ.2.1 + 390)), (4, .ref (κ.2.1 + 391)), (5, .int (nI i))] [] σ n := by
  obtain ⟨s', c1, c2, c3, c4⟩ := j_position (κ := κ) (σ := σ) (a1 := (gX κ (i + 1))) h
  refine go_aload_n (q := 2438) (gDec (iLw4_0_ok hs) 53 rfl) rfl rfl rfl ?_
  refine go_aload_n (q := 2439) (gDec (iLw4_0_ok hs) 54 rfl) rfl rfl rfl ?_
  refine go_iload (q := 2441) (gDec (iLw4_0_ok hs) 55 rfl) rfl rfl ?_
  refine go_iconst (v := nI 1) (q := 2442) (gDec (iLw4_0_ok hs) 56 rfl) (by decide) rfl ?_
  refine go_iaddN (c := i + 1) (q := 2443) (gDec (iLw4_0_ok hs) 57 rfl) rfl rfl ?_
  refine go_sld (q := 2444) (gDec (iLw4_0_ok hs) 58 rfl) (vp_in_nI (by omega) (by omega)) rfl ?_
  refine go_top (v' := gX κ (i + 1)) (rfl) ?_
  refine go_aload_n (q := 2445) (gDec (iLw4_0_ok hs) 59 rfl) rfl rfl rfl ?_
  refine go_callH (n2 := n + 1) (q := 2448) kL_254 rfl (ctL_position (κ := κ) (σ := σ) (a1 := (gX κ (i + 1))) h) (gDec (iLw4_1_ok hs) 0 rfl) rfl rfl (Nat.le_of_ble_eq_true rfl) rfl (hR _ _ (by decide) (Nat.le_refl _)) rfl ?_
  refine go_istore (q := 2450) (gDec (iLw4_1_ok hs) 1 rfl) (Nat.le_of_ble_eq_true rfl) rfl ?_
  refine go_aload_n (q := 2451) (gDec (iLw4_1_ok hs) 2 rfl) rfl rfl rfl ?_
  refine go_aload_n (q := 2452) (gDec (iLw4_1_ok hs) 3 rfl) rfl rfl rfl ?_
  refine go_iload (q := 2454) (gDec (iLw4_1_ok hs) 4 rfl) rfl rfl ?_
  refine go_iconst (v := nI 1) (q := 2455) (gDec (iLw4_1_ok hs) 5 rfl) (by decide) rfl ?_
  refine go_iaddN (c := i + 1) (q := 2456) (gDec (iLw4_1_ok hs) 6 rfl) rfl rfl ?_
  refine go_sld (q := 2457) (gDec (iLw4_1_ok hs) 7 rfl) (vp_in_nI (by omega) (by omega)) rfl ?_
  refine go_top (v' := gX κ (i + 1)) (rfl) ?_
  refine go_callV (n2 := n + 1) (q := 2460) kL_256 c1 (gDec (iLw4_1_ok hs) 8 rfl) rfl rfl (by decide) rfl rfl rfl (Nat.le_of_ble_eq_true rfl) rfl (hR _ _ (by decide) (Nat.le_refl _)) rfl ?_
  refine go_istore (q := 2462) (gDec (iLw4_1_ok hs) 9 rfl) (Nat.le_of_ble_eq_true rfl) rfl ?_
  refine go_aload_n (q := 2463) (gDec (iLw4_1_ok hs) 10 rfl) rfl rfl rfl ?_
  refine go_callV (n2 := n + 1) (q := 2466) kL_157 (ctX11_thrown (κ := κ) (σ := s')) (gDec (iLw4_1_ok hs) 11 rfl) rfl rfl (by decide) rfl rfl rfl (Nat.le_of_ble_eq_true rfl) rfl (hR _ _ (by decide) (Nat.le_refl _)) rfl ?_
  refine go_top (v' := xC kN (fPosition σ (gX κ (i + 1))).1) (c2) ?_
  refine go_iload (q := 2468) (gDec (iLw4_1_ok hs) 12 rfl) rfl rfl ?_
  refine go_icmp_eq (t := 2473) (q := 2471) (gDec (iLw4_1_ok hs) 13 rfl) (by decide) rfl (fun c2468 => ?_) (fun c2468 => False.elim (c2468 rfl))
  refine go_iload (q := 2475) (gDec (iLw4_1_ok hs) 16 rfl) rfl rfl ?_
  refine go_if_ne (t := 2490) (q := 2478) (gDec (iLw4_1_ok hs) 17 rfl) (by decide) rfl (fun c2475 => ?_) (fun c2475 => ?_)
  · refine go_goto (t := 2942) (gDec (iLw4_1_ok hs) 27 rfl) (by decide) ?_
    refine go_sub (L' := [(0, .ref κ.2.2.2.2.1), (1, .ref (κ.2.1 + 0)), (2, .ref (κ.2.1 + 376)), (3, .ref (κ.2.1 + 390)), (4, .ref (κ.2.1 + 391)), (5, .int (nI i))]) ⟨rfl, rfl, rfl, rfl, rfl, rfl, trivial⟩ ?_
    exact hk s' c4
  · obtain ⟨v, he⟩ := (r_position (σ := σ) (a1 := (gX κ (i + 1)))).resolve_right (fun h9 => h9 c2475)
    refine go_aload_n (q := 2479) (gDec (iLw4_1_ok hs) 18 rfl) rfl rfl rfl ?_
    refine go_iconst (v := 0) (q := 2480) (gDec (iLw4_1_ok hs) 19 rfl) (by decide) rfl ?_
    refine go_lald (q := 2481) (gDec (iLw4_1_ok hs) 20 rfl) rfl (by decide) vp_00 rfl ?_
    refine go_iload (q := 2483) (gDec (iLw4_1_ok hs) 21 rfl) rfl rfl ?_
    refine go_i2l (q := 2484) (gDec (iLw4_1_ok hs) 22 rfl) rfl ?_
    refine go_lcmp (q := 2485) (gDec (iLw4_1_ok hs) 23 rfl) rfl ?_
    refine go_top (v' := 0) ((lw_cmp he c3)) ?_
    refine go_if_eq (t := 2490) (q := 2488) (gDec (iLw4_1_ok hs) 24 rfl) (by decide) rfl (fun c2485 => ?_) (fun c2485 => False.elim (c2485 rfl))
    refine go_goto (t := 2942) (gDec (iLw4_1_ok hs) 27 rfl) (by decide) ?_
    refine go_sub (L' := [(0, .ref κ.2.2.2.2.1), (1, .ref (κ.2.1 + 0)), (2, .ref (κ.2.1 + 376)), (3, .ref (κ.2.1 + 390)), (4, .ref (κ.2.1 + 391)), (5, .int (nI i))]) ⟨rfl, rfl, rfl, rfl, rfl, rfl, trivial⟩ ?_
    exact hk s' c4
