set_option maxHeartbeats 4000000 in
set_option maxRecDepth 100000 in
theorem lpX5_glyphWith {κ : gK} {σ σ' : gST} {N : Nat} {code : Int32} {o : gO} (hN : N ≤ 24) (hn : σ.1 2 5 = nI N) (hσ : σ' = σ) : ∀ (m i : Nat), i + m = N → o = .inl (some (.int (gFind (σ.1 4) code i m))) → Go κ mX5_glyphWith (gRm 2 0) (gZm κ o σ' 0) 2 [(0, .ref (κ.2.1 + 2)), (1, .int code), (2, .int (nI i))] [] σ 0 := by
  intro m
  induction m with
  | zero =>
    intro i hi ho
    refine go_iload_n (q := 3) (gDec iX5_glyphWith_ok 2 rfl) rfl rfl rfl ?_
    refine go_aload_n (q := 4) (gDec iX5_glyphWith_ok 3 rfl) rfl rfl rfl ?_
    refine go_geti (q := 7) fX5_32 (gDec iX5_glyphWith_ok 4 rfl) rfl (by decide) rfl ?_
    refine go_icmp_ge (t := 30) (q := 10) (gDec iX5_glyphWith_ok 5 rfl) (by decide) rfl (fun c7 => ?_) (fun c7 => False.elim (c7 (by rw [hn]; exact nI_le (by omega) (by omega))))
    refine go_iconst (v := (-1)) (q := 31) (gDec iX5_glyphWith_ok 16 rfl) (by decide) rfl ?_
    exact go_ireturn (gDec iX5_glyphWith_ok 17 rfl) rfl rfl ho hσ (by decide)
  | succ m ih =>
    intro i hi ho
    rw [gFind] at ho
    refine go_iload_n (q := 3) (gDec iX5_glyphWith_ok 2 rfl) rfl rfl rfl ?_
    refine go_aload_n (q := 4) (gDec iX5_glyphWith_ok 3 rfl) rfl rfl rfl ?_
    refine go_geti (q := 7) fX5_32 (gDec iX5_glyphWith_ok 4 rfl) rfl (by decide) rfl ?_
    refine go_icmp_ge (t := 30) (q := 10) (gDec iX5_glyphWith_ok 5 rfl) (by decide) rfl (fun c7 => False.elim (by rw [hn] at c7; exact nI_ge (a := i) (b := N) (by omega) (by omega) c7)) (fun c7 => ?_)
    refine go_aload_n (q := 11) (gDec iX5_glyphWith_ok 6 rfl) rfl rfl rfl ?_
    refine go_getr (r' := 3) (q := 14) fX5_14 (gDec iX5_glyphWith_ok 7 rfl) rfl (by decide) rfl ?_
    refine go_iload_n (q := 15) (gDec iX5_glyphWith_ok 8 rfl) rfl rfl rfl ?_
    refine go_callV (n2 := 0) (q := 18) kX5_40 (ctX7_get (a := 4) rfl rfl (by decide) (by decide) (by omega) (by decide)) (gDec iX5_glyphWith_ok 9 rfl) rfl rfl (by decide) rfl rfl rfl (Nat.le_of_ble_eq_true rfl) rfl (gFit_rm (by decide) (by decide)) rfl ?_
    refine go_iload_n (q := 19) (gDec iX5_glyphWith_ok 10 rfl) rfl rfl rfl ?_
    refine go_icmp_ne (t := 24) (q := 22) (gDec iX5_glyphWith_ok 11 rfl) (by decide) rfl (fun c19 => ?_) (fun c19 => ?_)
    · refine go_iinc (v := nI (i + 1)) (q := 27) (gDec iX5_glyphWith_ok 14 rfl) rfl (nI_1 i) (by decide) rfl ?_
      refine go_goto (t := 2) (gDec iX5_glyphWith_ok 15 rfl) (by decide) ?_
      refine go_sub (L' := [(0, .ref (κ.2.1 + 2)), (1, .int code), (2, .int (nI (i + 1)))]) ⟨rfl, rfl, rfl, trivial⟩ ?_
      exact ih (i + 1) (by omega) (ho.trans (by rw [if_neg c19]))
    · refine go_iload_n (q := 23) (gDec iX5_glyphWith_ok 12 rfl) rfl rfl rfl ?_
      exact go_ireturn (gDec iX5_glyphWith_ok 13 rfl) rfl rfl (ho.trans (by rw [if_pos (Classical.not_not.mp (fun h => absurd c19 h))])) hσ (by decide)

set_option maxHeartbeats 4000000 in
set_option maxRecDepth 100000 in
theorem ctX5_glyphWith {κ : gK} {σ : gST} {N : Nat} {code : Int32} (hN : N ≤ 24) (hn : σ.1 2 5 = nI N) : gCt κ mX5_glyphWith 2 [.ref (κ.2.1 + 2), .int code] σ (.inl (some (.int (gFind (σ.1 4) code 0 N)))) σ 0 := by
  refine ct_of (by decide +kernel) rfl (Nat.le_of_ble_eq_true rfl) rfl ?_
  refine go_iconst (v := 0) (q := 1) (gDec iX5_glyphWith_ok 0 rfl) (by decide) rfl ?_
  refine go_istore_n (q := 2) (gDec iX5_glyphWith_ok 1 rfl) rfl (by decide) rfl ?_
  refine go_sub (L' := [(0, .ref (κ.2.1 + 2)), (1, .int code), (2, .int (nI 0))]) ⟨rfl, rfl, rfl, trivial⟩ ?_
  exact lpX5_glyphWith hN hn rfl N 0 (by omega) rfl

set_option maxHeartbeats 4000000 in
set_option maxRecDepth 100000 in
theorem ctX5_addEmptyGlyph {κ : gK} {σ : gST} {n : Nat} {code : Int32} (hn : σ.1 2 5 = nI n) (hlt : n < 24) : gCt κ mX5_addEmptyGlyph 1 [.ref (κ.2.1 + 2), .int code] σ (.inl (some (.int (nI n)))) (gPut (gPut σ 4 n code) 2 5 (nI (n + 1))) 0 := by
  refine ct_of (by decide +kernel) rfl (Nat.le_of_ble_eq_true rfl) rfl ?_
  refine go_aload_n (q := 1) (gDec iX5_addEmptyGlyph_ok 0 rfl) rfl rfl rfl ?_
  refine go_geti (q := 4) fX5_32 (gDec iX5_addEmptyGlyph_ok 1 rfl) rfl (by decide) rfl ?_
  rw [hn]
  refine go_istore_n (q := 5) (gDec iX5_addEmptyGlyph_ok 2 rfl) rfl (by decide) rfl ?_
  refine go_aload_n (q := 6) (gDec iX5_addEmptyGlyph_ok 3 rfl) rfl rfl rfl ?_
  refine go_getr (r' := 3) (q := 9) fX5_14 (gDec iX5_addEmptyGlyph_ok 4 rfl) rfl (by decide) rfl ?_
  refine go_iload_n (q := 10) (gDec iX5_addEmptyGlyph_ok 5 rfl) rfl rfl rfl ?_
  refine go_iload_n (q := 11) (gDec iX5_addEmptyGlyph_ok 6 rfl) rfl rfl rfl ?_
  refine go_callV (n2 := 0) (q := 14) kX5_44 (ctX7_put (a := 4) rfl rfl (by decide) (by decide) (by omega) (by decide)) (gDec iX5_addEmptyGlyph_ok 7 rfl) rfl rfl (by decide) rfl rfl rfl (Nat.le_of_ble_eq_true rfl) rfl (gFit_rm (by decide) (by decide)) rfl ?_
  refine go_aload_n (q := 15) (gDec iX5_addEmptyGlyph_ok 8 rfl) rfl rfl rfl ?_
  refine go_iload_n (q := 16) (gDec iX5_addEmptyGlyph_ok 9 rfl) rfl rfl rfl ?_
  refine go_iconst (v := 1) (q := 17) (gDec iX5_addEmptyGlyph_ok 10 rfl) (by decide) rfl ?_
  refine go_iadd (q := 18) (gDec iX5_addEmptyGlyph_ok 11 rfl) rfl ?_
  refine go_puti (q := 21) fX5_32 gft5 (gDec iX5_addEmptyGlyph_ok 12 rfl) rfl (by decide) rfl rfl rfl rfl ?_
  refine go_iload_n (q := 22) (gDec iX5_addEmptyGlyph_ok 13 rfl) rfl rfl rfl ?_
  exact go_ireturn (gDec iX5_addEmptyGlyph_ok 14 rfl) rfl rfl rfl (by rw [← nI_1]) (by decide)

set_option maxHeartbeats 4000000 in
set_option maxRecDepth 100000 in
theorem ctX5_removeContours {κ : gK} {σ : gST} {g : Nat} (hg : g < 24) : gCt κ mX5_removeContours 1 [.ref (κ.2.1 + 2), .int (nI g)] σ (.inl none) (gPut σ 6 g 0) 0 := by
  refine ct_of (by decide +kernel) rfl (Nat.le_of_ble_eq_true rfl) rfl ?_
  refine go_aload_n (q := 1) (gDec iX5_removeContours_ok 0 rfl) rfl rfl rfl ?_
  refine go_getr (r' := 5) (q := 4) fX5_20 (gDec iX5_removeContours_ok 1 rfl) rfl (by decide) rfl ?_
  refine go_iload_n (q := 5) (gDec iX5_removeContours_ok 2 rfl) rfl rfl rfl ?_
  refine go_iconst (v := 0) (q := 6) (gDec iX5_removeContours_ok 3 rfl) (by decide) rfl ?_
  refine go_callV (n2 := 0) (q := 9) kX5_44 (ctX7_put (a := 6) rfl rfl (by decide) (by decide) (by omega) (by decide)) (gDec iX5_removeContours_ok 4 rfl) rfl rfl (by decide) rfl rfl rfl (Nat.le_of_ble_eq_true rfl) rfl (gFit_rm (by decide) (by decide)) rfl ?_
  exact go_return (gDec iX5_removeContours_ok 5 rfl) rfl rfl rfl (by decide)

set_option maxHeartbeats 4000000 in
set_option maxRecDepth 100000 in
theorem ctX5_addEmptyContour {κ : gK} {σ : gST} {g c : Nat} (hg : g < 24) (hc : σ.1 6 g = nI c) (hlt : c < 3) : gCt κ mX5_addEmptyContour 2 [.ref (κ.2.1 + 2), .int (nI g)] σ (.inl (some (.int (nI c)))) (gPut (gPut σ 6 g (nI (c + 1))) 8 (g * 3 + c) 0) 0 := by
  refine ct_of (by decide +kernel) rfl (Nat.le_of_ble_eq_true rfl) rfl ?_
  refine go_aload_n (q := 1) (gDec iX5_addEmptyContour_ok 0 rfl) rfl rfl rfl ?_
  refine go_iload_n (q := 2) (gDec iX5_addEmptyContour_ok 1 rfl) rfl rfl rfl ?_
  refine go_callV (n2 := 0) (q := 5) kX5_55 (ctX5_contourCount (by omega)) (gDec iX5_addEmptyContour_ok 2 rfl) rfl rfl (by decide) rfl rfl rfl (Nat.le_of_ble_eq_true rfl) rfl (gFit_rm (by decide) (by decide)) rfl ?_
  rw [hc]
  refine go_istore_n (q := 6) (gDec iX5_addEmptyContour_ok 3 rfl) rfl (by decide) rfl ?_
  refine go_aload_n (q := 7) (gDec iX5_addEmptyContour_ok 4 rfl) rfl rfl rfl ?_
  refine go_getr (r' := 5) (q := 10) fX5_20 (gDec iX5_addEmptyContour_ok 5 rfl) rfl (by decide) rfl ?_
  refine go_iload_n (q := 11) (gDec iX5_addEmptyContour_ok 6 rfl) rfl rfl rfl ?_
  refine go_iload_n (q := 12) (gDec iX5_addEmptyContour_ok 7 rfl) rfl rfl rfl ?_
  refine go_iconst (v := 1) (q := 13) (gDec iX5_addEmptyContour_ok 8 rfl) (by decide) rfl ?_
  refine go_iadd (q := 14) (gDec iX5_addEmptyContour_ok 9 rfl) rfl ?_
  refine go_callV (n2 := 0) (q := 17) kX5_44 (ctX7_put (a := 6) rfl rfl (by decide) (by decide) (by omega) (by decide)) (gDec iX5_addEmptyContour_ok 10 rfl) rfl rfl (by decide) rfl rfl rfl (Nat.le_of_ble_eq_true rfl) rfl (gFit_rm (by decide) (by decide)) rfl ?_
  refine go_aload_n (q := 18) (gDec iX5_addEmptyContour_ok 11 rfl) rfl rfl rfl ?_
  refine go_getr (r' := 7) (q := 21) fX5_23 (gDec iX5_addEmptyContour_ok 12 rfl) rfl (by decide) rfl ?_
  refine go_iload_n (q := 22) (gDec iX5_addEmptyContour_ok 13 rfl) rfl rfl rfl ?_
  refine go_iload_n (q := 23) (gDec iX5_addEmptyContour_ok 14 rfl) rfl rfl rfl ?_
  refine go_callS (n2 := 0) (q := 26) kX5_47 ctX5_contourIndex (gDec iX5_addEmptyContour_ok 15 rfl) rfl rfl (Nat.le_of_ble_eq_true rfl) rfl (gFit_rm (by decide) (by decide)) rfl ?_
  refine go_iconst (v := 0) (q := 27) (gDec iX5_addEmptyContour_ok 16 rfl) (by decide) rfl ?_
  refine go_callV (n2 := 0) (q := 30) kX5_44 (ctX7_put (a := 8) rfl rfl (by decide) (by decide) (by omega) (by decide)) (gDec iX5_addEmptyContour_ok 17 rfl) rfl rfl (by decide) rfl rfl rfl (Nat.le_of_ble_eq_true rfl) rfl (gFit_rm (by decide) (by decide)) rfl ?_
  refine go_iload_n (q := 31) (gDec iX5_addEmptyContour_ok 18 rfl) rfl rfl rfl ?_
  exact go_ireturn (gDec iX5_addEmptyContour_ok 19 rfl) rfl rfl rfl (by rw [← nI_1]) (by decide)

set_option maxHeartbeats 4000000 in
set_option maxRecDepth 100000 in
theorem ctX5_addPoint {κ : gK} {σ : gST} {g c p : Nat} {x y : Int32} (hg : g < 24) (hc : c < 3) (hp : σ.1 8 (g * 3 + c) = nI p) (hlt : p < 12) : gCt κ mX5_addPoint 3 [.ref (κ.2.1 + 2), .int (nI g), .int (nI c), .int x, .int y] σ (.inl none) (gPut (gPut (gPut σ 10 ((g * 3 + c) * 12 + p) x) 12 ((g * 3 + c) * 12 + p) y) 8 (g * 3 + c) (nI (p + 1))) 0 := by
  refine ct_of (by decide +kernel) rfl (Nat.le_of_ble_eq_true rfl) rfl ?_
  refine go_aload_n (q := 1) (gDec iX5_addPoint_ok 0 rfl) rfl rfl rfl ?_
  refine go_iload_n (q := 2) (gDec iX5_addPoint_ok 1 rfl) rfl rfl rfl ?_
  refine go_iload_n (q := 3) (gDec iX5_addPoint_ok 2 rfl) rfl rfl rfl ?_
  refine go_callV (n2 := 0) (q := 6) kX5_58 (ctX5_pointCount (by omega) (by omega)) (gDec iX5_addPoint_ok 3 rfl) rfl rfl (by decide) rfl rfl rfl (Nat.le_of_ble_eq_true rfl) rfl (gFit_rm (by decide) (by decide)) rfl ?_
  rw [hp]
  refine go_istore (q := 8) (gDec iX5_addPoint_ok 4 rfl) (by decide) rfl ?_
  refine go_aload_n (q := 9) (gDec iX5_addPoint_ok 5 rfl) rfl rfl rfl ?_
  refine go_iload_n (q := 10) (gDec iX5_addPoint_ok 6 rfl) rfl rfl rfl ?_
  refine go_iload_n (q := 11) (gDec iX5_addPoint_ok 7 rfl) rfl rfl rfl ?_
  refine go_iload (q := 13) (gDec iX5_addPoint_ok 8 rfl) rfl rfl ?_
  refine go_iload_n (q := 14) (gDec iX5_addPoint_ok 9 rfl) rfl rfl rfl ?_
  refine go_iload (q := 16) (gDec iX5_addPoint_ok 10 rfl) rfl rfl ?_
  refine go_callV (n2 := 0) (q := 19) kX5_61 (ctX5_setPoint (by omega) (by omega) (by omega)) (gDec iX5_addPoint_ok 11 rfl) rfl rfl (by decide) rfl rfl rfl (Nat.le_of_ble_eq_true rfl) rfl (gFit_rm (by decide) (by decide)) rfl ?_
  refine go_aload_n (q := 20) (gDec iX5_addPoint_ok 12 rfl) rfl rfl rfl ?_
  refine go_getr (r' := 7) (q := 23) fX5_23 (gDec iX5_addPoint_ok 13 rfl) rfl (by decide) rfl ?_
  refine go_iload_n (q := 24) (gDec iX5_addPoint_ok 14 rfl) rfl rfl rfl ?_
  refine go_iload_n (q := 25) (gDec iX5_addPoint_ok 15 rfl) rfl rfl rfl ?_
  refine go_callS (n2 := 0) (q := 28) kX5_47 ctX5_contourIndex (gDec iX5_addPoint_ok 16 rfl) rfl rfl (Nat.le_of_ble_eq_true rfl) rfl (gFit_rm (by decide) (by decide)) rfl ?_
  refine go_iload (q := 30) (gDec iX5_addPoint_ok 17 rfl) rfl rfl ?_
  refine go_iconst (v := 1) (q := 31) (gDec iX5_addPoint_ok 18 rfl) (by decide) rfl ?_
  refine go_iadd (q := 32) (gDec iX5_addPoint_ok 19 rfl) rfl ?_
  refine go_callV (n2 := 0) (q := 35) kX5_44 (ctX7_put (a := 8) rfl rfl (by decide) (by decide) (by omega) (by decide)) (gDec iX5_addPoint_ok 20 rfl) rfl rfl (by decide) rfl rfl rfl (Nat.le_of_ble_eq_true rfl) rfl (gFit_rm (by decide) (by decide)) rfl ?_
  exact go_return (gDec iX5_addPoint_ok 21 rfl) rfl rfl (by rw [← nI_1]) (by decide)

/-- a box as the next contour -/
def gBox (σ : gST) (g c : Nat) (l b r t : Int32) : gST :=
  let P := fun (s : gST) (p : Nat) (x y : Int32) => gPut (gPut (gPut s 10 ((g * 3 + c) * 12 + p) x) 12 ((g * 3 + c) * 12 + p) y) 8 (g * 3 + c) (nI (p + 1))
  P (P (P (P (gPut (gPut σ 6 g (nI (c + 1))) 8 (g * 3 + c) 0) 0 l b) 1 r b) 2 r t) 3 l t

set_option maxHeartbeats 4000000 in
set_option maxRecDepth 100000 in
theorem ctX5_addBox {κ : gK} {σ : gST} {g c : Nat} {l b r t : Int32} (hg : g < 24) (hc : σ.1 6 g = nI c) (hlt : c < 3) : gCt κ mX5_addBox 4 [.ref (κ.2.1 + 2), .int (nI g), .int l, .int b, .int r, .int t] σ (.inl (some (.int (nI c)))) (gBox σ g c l b r t) 0 := by
  refine ct_of (by decide +kernel) rfl (Nat.le_of_ble_eq_true rfl) rfl ?_
  refine go_aload_n (q := 1) (gDec iX5_addBox_ok 0 rfl) rfl rfl rfl ?_
  refine go_iload_n (q := 2) (gDec iX5_addBox_ok 1 rfl) rfl rfl rfl ?_
  refine go_callV (n2 := 0) (q := 5) kX5_65 (ctX5_addEmptyContour (by omega) hc hlt) (gDec iX5_addBox_ok 2 rfl) rfl rfl (by decide) rfl rfl rfl (Nat.le_of_ble_eq_true rfl) rfl (gFit_rm (by decide) (by decide)) rfl ?_
  refine go_istore (q := 7) (gDec iX5_addBox_ok 3 rfl) (by decide) rfl ?_
  refine go_aload_n (q := 8) (gDec iX5_addBox_ok 4 rfl) rfl rfl rfl ?_
  refine go_iload_n (q := 9) (gDec iX5_addBox_ok 5 rfl) rfl rfl rfl ?_
  refine go_iload (q := 11) (gDec iX5_addBox_ok 6 rfl) rfl rfl ?_
  refine go_iload_n (q := 12) (gDec iX5_addBox_ok 7 rfl) rfl rfl rfl ?_
  refine go_iload_n (q := 13) (gDec iX5_addBox_ok 8 rfl) rfl rfl rfl ?_
  refine go_callV (n2 := 0) (q := 16) kX5_68 (ctX5_addPoint (p := 0) (by omega) (by omega) (by simp [gPut_at]; try rfl) (by omega)) (gDec iX5_addBox_ok 9 rfl) rfl rfl (by decide) rfl rfl rfl (Nat.le_of_ble_eq_true rfl) rfl (gFit_rm (by decide) (by decide)) rfl ?_
  refine go_aload_n (q := 17) (gDec iX5_addBox_ok 10 rfl) rfl rfl rfl ?_
  refine go_iload_n (q := 18) (gDec iX5_addBox_ok 11 rfl) rfl rfl rfl ?_
  refine go_iload (q := 20) (gDec iX5_addBox_ok 12 rfl) rfl rfl ?_
  refine go_iload (q := 22) (gDec iX5_addBox_ok 13 rfl) rfl rfl ?_
  refine go_iload_n (q := 23) (gDec iX5_addBox_ok 14 rfl) rfl rfl rfl ?_
  refine go_callV (n2 := 0) (q := 26) kX5_68 (ctX5_addPoint (p := 1) (by omega) (by omega) (by simp [gPut_at]; try rfl) (by omega)) (gDec iX5_addBox_ok 15 rfl) rfl rfl (by decide) rfl rfl rfl (Nat.le_of_ble_eq_true rfl) rfl (gFit_rm (by decide) (by decide)) rfl ?_
  refine go_aload_n (q := 27) (gDec iX5_addBox_ok 16 rfl) rfl rfl rfl ?_
  refine go_iload_n (q := 28) (gDec iX5_addBox_ok 17 rfl) rfl rfl rfl ?_
  refine go_iload (q := 30) (gDec iX5_addBox_ok 18 rfl) rfl rfl ?_
  refine go_iload (q := 32) (gDec iX5_addBox_ok 19 rfl) rfl rfl ?_
  refine go_iload (q := 34) (gDec iX5_addBox_ok 20 rfl) rfl rfl ?_
  refine go_callV (n2 := 0) (q := 37) kX5_68 (ctX5_addPoint (p := 2) (by omega) (by omega) (by simp [gPut_at]; try rfl) (by omega)) (gDec iX5_addBox_ok 21 rfl) rfl rfl (by decide) rfl rfl rfl (Nat.le_of_ble_eq_true rfl) rfl (gFit_rm (by decide) (by decide)) rfl ?_
  refine go_aload_n (q := 38) (gDec iX5_addBox_ok 22 rfl) rfl rfl rfl ?_
  refine go_iload_n (q := 39) (gDec iX5_addBox_ok 23 rfl) rfl rfl rfl ?_
  refine go_iload (q := 41) (gDec iX5_addBox_ok 24 rfl) rfl rfl ?_
  refine go_iload_n (q := 42) (gDec iX5_addBox_ok 25 rfl) rfl rfl rfl ?_
  refine go_iload (q := 44) (gDec iX5_addBox_ok 26 rfl) rfl rfl ?_
  refine go_callV (n2 := 0) (q := 47) kX5_68 (ctX5_addPoint (p := 3) (by omega) (by omega) (by simp [gPut_at]; try rfl) (by omega)) (gDec iX5_addBox_ok 27 rfl) rfl rfl (by decide) rfl rfl rfl (Nat.le_of_ble_eq_true rfl) rfl (gFit_rm (by decide) (by decide)) rfl ?_
  refine go_iload (q := 49) (gDec iX5_addBox_ok 28 rfl) rfl rfl ?_
  exact go_ireturn (gDec iX5_addBox_ok 29 rfl) rfl rfl rfl rfl (by decide)

set_option maxHeartbeats 4000000 in
set_option maxRecDepth 100000 in
theorem ctX5_nextPoint {κ : gK} {σ : gST} {g c p P : Nat} (hg : g < 24) (hc : c < 3) (hP : σ.1 8 (g * 3 + c) = nI P) (hp : p < 12) (hP2 : P ≤ 12) : gCt κ mX5_nextPoint 2 [.ref (κ.2.1 + 2), .int (nI g), .int (nI c), .int (nI p)] σ (.inl (some (.int (nI (if p + 1 < P then p + 1 else 0))))) σ 0 := by
  refine ct_of (by decide +kernel) rfl (Nat.le_of_ble_eq_true rfl) rfl ?_
  refine go_iload_n (q := 1) (gDec iX5_nextPoint_ok 0 rfl) rfl rfl rfl ?_
  refine go_iconst (v := 1) (q := 2) (gDec iX5_nextPoint_ok 1 rfl) (by decide) rfl ?_
  refine go_iadd (q := 3) (gDec iX5_nextPoint_ok 2 rfl) rfl ?_
  refine go_aload_n (q := 4) (gDec iX5_nextPoint_ok 3 rfl) rfl rfl rfl ?_
  refine go_iload_n (q := 5) (gDec iX5_nextPoint_ok 4 rfl) rfl rfl rfl ?_
  refine go_iload_n (q := 6) (gDec iX5_nextPoint_ok 5 rfl) rfl rfl rfl ?_
  refine go_callV (n2 := 0) (q := 9) kX5_58 (ctX5_pointCount (by omega) (by omega)) (gDec iX5_nextPoint_ok 6 rfl) rfl rfl (by decide) rfl rfl rfl (Nat.le_of_ble_eq_true rfl) rfl (gFit_rm (by decide) (by decide)) rfl ?_
  rw [hP, nI_1]
  refine go_icmp_ge (t := 18) (q := 12) (gDec iX5_nextPoint_ok 7 rfl) (by decide) rfl (fun c9 => ?_) (fun c9 => ?_)
  · refine go_iconst (v := 0) (q := 19) (gDec iX5_nextPoint_ok 12 rfl) (by decide) rfl ?_
    exact go_ireturn (gDec iX5_nextPoint_ok 13 rfl) rfl rfl (by first | (rw [if_pos (by rcases Nat.lt_or_ge (p + 1) P with h | h; exact h; exact absurd (nI_le h (by omega)) c9), ← nI_1]) | (rw [if_neg (fun h => nI_ge h (by omega) c9)]; rfl)) rfl (by decide)
  · refine go_iload_n (q := 13) (gDec iX5_nextPoint_ok 8 rfl) rfl rfl rfl ?_
    refine go_iconst (v := 1) (q := 14) (gDec iX5_nextPoint_ok 9 rfl) (by decide) rfl ?_
    refine go_iadd (q := 15) (gDec iX5_nextPoint_ok 10 rfl) rfl ?_
    refine go_goto (t := 19) (gDec iX5_nextPoint_ok 11 rfl) (by decide) ?_
    exact go_ireturn (gDec iX5_nextPoint_ok 13 rfl) rfl rfl (by first | (rw [if_pos (by rcases Nat.lt_or_ge (p + 1) P with h | h; exact h; exact absurd (nI_le h (by omega)) c9), ← nI_1]) | (rw [if_neg (fun h => nI_ge h (by omega) c9)]; rfl)) rfl (by decide)

theorem gLoop_zero {α : Type} (step : Nat → α → α) (i : Nat) (a : α) : gLoop step i 0 a = a := rfl

set_option maxHeartbeats 4000000 in
set_option maxRecDepth 100000 in
theorem lpX5_pointCountOf {κ : gK} {Z : gZ} {σ : gST} {g N : Nat} (hg : g < 24) (hN : N ≤ 3) (hm : σ.1 6 g = nI N) : ∀ (m i : Nat) (a : Int32), i + m = N → Go κ mX5_pointCountOf (gRm 3 0) Z 28 [(0, .ref (κ.2.1 + 2)), (1, .int (nI g)), (2, .int (gLoop (fun c a => a + σ.1 8 (g * 3 + c)) i m a)), (3, .int (nI N))] [] σ 0 → Go κ mX5_pointCountOf (gRm 3 0) Z 4 [(0, .ref (κ.2.1 + 2)), (1, .int (nI g)), (2, .int a), (3, .int (nI i))] [] σ 0 := by
  intro m
  induction m with
  | zero =>
    intro i a hi h
    have hiN : N = i := by omega
    rw [hiN] at h
    refine go_iload_n (q := 5) (gDec iX5_pointCountOf_ok 4 rfl) rfl rfl rfl ?_
    refine go_aload_n (q := 6) (gDec iX5_pointCountOf_ok 5 rfl) rfl rfl rfl ?_
    refine go_iload_n (q := 7) (gDec iX5_pointCountOf_ok 6 rfl) rfl rfl rfl ?_
    refine go_callV (n2 := 0) (q := 10) kX5_55 (ctX5_contourCount (by omega)) (gDec iX5_pointCountOf_ok 7 rfl) rfl rfl (by decide) rfl rfl rfl (Nat.le_of_ble_eq_true rfl) rfl (gFit_rm (by decide) (by decide)) rfl ?_
    refine go_icmp_ge (t := 28) (q := 13) (gDec iX5_pointCountOf_ok 8 rfl) (by decide) rfl (fun c10 => ?_) (fun c10 => False.elim (c10 (by rw [hm]; exact nI_le (by omega) (by omega))))
    refine go_sub (L' := [(0, .ref (κ.2.1 + 2)), (1, .int (nI g)), (2, .int a), (3, .int (nI i))]) ⟨rfl, rfl, rfl, rfl, trivial⟩ ?_
    exact h
  | succ m ih =>
    intro i a hi h
    refine go_iload_n (q := 5) (gDec iX5_pointCountOf_ok 4 rfl) rfl rfl rfl ?_
    refine go_aload_n (q := 6) (gDec iX5_pointCountOf_ok 5 rfl) rfl rfl rfl ?_
    refine go_iload_n (q := 7) (gDec iX5_pointCountOf_ok 6 rfl) rfl rfl rfl ?_
    refine go_callV (n2 := 0) (q := 10) kX5_55 (ctX5_contourCount (by omega)) (gDec iX5_pointCountOf_ok 7 rfl) rfl rfl (by decide) rfl rfl rfl (Nat.le_of_ble_eq_true rfl) rfl (gFit_rm (by decide) (by decide)) rfl ?_
    refine go_icmp_ge (t := 28) (q := 13) (gDec iX5_pointCountOf_ok 8 rfl) (by decide) rfl (fun c10 => False.elim (by rw [hm] at c10; exact nI_ge (a := i) (b := N) (by omega) (by omega) c10)) (fun c10 => ?_)
    refine go_iload_n (q := 14) (gDec iX5_pointCountOf_ok 9 rfl) rfl rfl rfl ?_
    refine go_aload_n (q := 15) (gDec iX5_pointCountOf_ok 10 rfl) rfl rfl rfl ?_
    refine go_iload_n (q := 16) (gDec iX5_pointCountOf_ok 11 rfl) rfl rfl rfl ?_
    refine go_iload_n (q := 17) (gDec iX5_pointCountOf_ok 12 rfl) rfl rfl rfl ?_
    refine go_callV (n2 := 0) (q := 20) kX5_58 (ctX5_pointCount (by omega) (by omega)) (gDec iX5_pointCountOf_ok 13 rfl) rfl rfl (by decide) rfl rfl rfl (Nat.le_of_ble_eq_true rfl) rfl (gFit_rm (by decide) (by decide)) rfl ?_
    refine go_iadd (q := 21) (gDec iX5_pointCountOf_ok 14 rfl) rfl ?_
    refine go_istore_n (q := 22) (gDec iX5_pointCountOf_ok 15 rfl) rfl (by decide) rfl ?_
    refine go_iinc (v := nI (i + 1)) (q := 25) (gDec iX5_pointCountOf_ok 16 rfl) rfl (nI_1 i) (by decide) rfl ?_
    refine go_goto (t := 4) (gDec iX5_pointCountOf_ok 17 rfl) (by decide) ?_
    refine go_sub (L' := [(0, .ref (κ.2.1 + 2)), (1, .int (nI g)), (2, .int ((fun c a => a + σ.1 8 (g * 3 + c)) i a)), (3, .int (nI (i + 1)))]) ⟨rfl, rfl, rfl, rfl, trivial⟩ ?_
    exact ih (i + 1) ((fun c a => a + σ.1 8 (g * 3 + c)) i a) (by omega) h

set_option maxHeartbeats 4000000 in
set_option maxRecDepth 100000 in
theorem ctX5_pointCountOf {κ : gK} {σ : gST} {g N : Nat} (hg : g < 24) (hN : N ≤ 3) (hm : σ.1 6 g = nI N) : gCt κ mX5_pointCountOf 3 [.ref (κ.2.1 + 2), .int (nI g)] σ (.inl (some (.int (gLoop (fun c a => a + σ.1 8 (g * 3 + c)) 0 N 0)))) σ 0 := by
  refine ct_of (by decide +kernel) rfl (Nat.le_of_ble_eq_true rfl) rfl ?_
  refine go_iconst (v := 0) (q := 1) (gDec iX5_pointCountOf_ok 0 rfl) (by decide) rfl ?_
  refine go_istore_n (q := 2) (gDec iX5_pointCountOf_ok 1 rfl) rfl (by decide) rfl ?_
  refine go_iconst (v := 0) (q := 3) (gDec iX5_pointCountOf_ok 2 rfl) (by decide) rfl ?_
  refine go_istore_n (q := 4) (gDec iX5_pointCountOf_ok 3 rfl) rfl (by decide) rfl ?_
  refine go_sub (L' := [(0, .ref (κ.2.1 + 2)), (1, .int (nI g)), (2, .int 0), (3, .int (nI 0))]) ⟨rfl, rfl, rfl, rfl, trivial⟩ ?_
  refine lpX5_pointCountOf hg hN hm N 0 0 (by omega) ?_
  refine go_iload_n (q := 29) (gDec iX5_pointCountOf_ok 18 rfl) rfl rfl rfl ?_
  exact go_ireturn (gDec iX5_pointCountOf_ok 19 rfl) rfl rfl rfl rfl (by decide)
