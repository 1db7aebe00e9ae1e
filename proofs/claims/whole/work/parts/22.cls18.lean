def iX10_requireGlyph : List (Nat × Instr × Nat) := [(0, .iload_n 1, 1), (1, .i2l, 1), (2, .lconst 0, 1), (3, .aload_n 0, 1), (4, .getfield 10, 3), (7, .getfield 70, 3), (10, .invokevirtual 432, 3), (13, .iconst 1, 1), (14, .isub, 1), (15, .i2l, 1), (16, .invokestatic 59, 3), (19, .ifCond .ne 14, 3), (22, .new 260, 3), (25, .dup, 1), (26, .ldc_w 497, 3), (29, .invokespecial 262, 3), (32, .athrow, 1), (33, .return_, 1)]
theorem iX10_requireGlyph_ok : gDecs mX10_requireGlyph iX10_requireGlyph := by decide +kernel
def iX10_requireContour : List (Nat × Instr × Nat) := [(0, .aload_n 0, 1), (1, .iload_n 1, 1), (2, .invokevirtual 96, 3), (5, .iload_n 2, 1), (6, .i2l, 1), (7, .lconst 0, 1), (8, .aload_n 0, 1), (9, .getfield 10, 3), (12, .getfield 70, 3), (15, .iload_n 1, 1), (16, .invokevirtual 106, 3), (19, .iconst 1, 1), (20, .isub, 1), (21, .i2l, 1), (22, .invokestatic 59, 3), (25, .ifCond .ne 14, 3), (28, .new 260, 3), (31, .dup, 1), (32, .ldc_w 499, 3), (35, .invokespecial 262, 3), (38, .athrow, 1), (39, .return_, 1)]
theorem iX10_requireContour_ok : gDecs mX10_requireContour iX10_requireContour := by decide +kernel
def iX10_requirePoint : List (Nat × Instr × Nat) := [(0, .aload_n 0, 1), (1, .iload_n 1, 1), (2, .iload_n 2, 1), (3, .invokevirtual 179, 3), (6, .iload_n 3, 1), (7, .i2l, 1), (8, .lconst 0, 1), (9, .aload_n 0, 1), (10, .getfield 10, 3), (13, .getfield 70, 3), (16, .iload_n 1, 1), (17, .iload_n 2, 1), (18, .invokevirtual 183, 3), (21, .iconst 1, 1), (22, .isub, 1), (23, .i2l, 1), (24, .invokestatic 59, 3), (27, .ifCond .ne 14, 3), (30, .new 260, 3), (33, .dup, 1), (34, .ldc_w 501, 3), (37, .invokespecial 262, 3), (40, .athrow, 1), (41, .return_, 1)]
theorem iX10_requirePoint_ok : gDecs mX10_requirePoint iX10_requirePoint := by decide +kernel
def iX10_requireSide : List (Nat × Instr × Nat) := [(0, .aload_n 0, 1), (1, .iload_n 1, 1), (2, .invokevirtual 96, 3), (5, .iload_n 2, 1), (6, .i2l, 1), (7, .lconst 0, 1), (8, .lconst 1, 1), (9, .invokestatic 59, 3), (12, .ifCond .ne 14, 3), (15, .new 260, 3), (18, .dup, 1), (19, .ldc_w 503, 3), (22, .invokespecial 262, 3), (25, .athrow, 1), (26, .return_, 1)]
theorem iX10_requireSide_ok : gDecs mX10_requireSide iX10_requireSide := by decide +kernel
def iX10_requireStem : List (Nat × Instr × Nat) := [(0, .aload_n 0, 1), (1, .iload_n 1, 1), (2, .invokevirtual 96, 3), (5, .iload_n 2, 1), (6, .i2l, 1), (7, .lconst 0, 1), (8, .aload_n 0, 1), (9, .getfield 10, 3), (12, .getfield 162, 3), (15, .iload_n 1, 1), (16, .invokevirtual 166, 3), (19, .iconst 1, 1), (20, .isub, 1), (21, .i2l, 1), (22, .invokestatic 59, 3), (25, .ifCond .ne 14, 3), (28, .new 260, 3), (31, .dup, 1), (32, .ldc_w 505, 3), (35, .invokespecial 262, 3), (38, .athrow, 1), (39, .return_, 1)]
theorem iX10_requireStem_ok : gDecs mX10_requireStem iX10_requireStem := by decide +kernel
def iX10_requireCoordinates : List (Nat × Instr × Nat) := [(0, .lload_n 0, 1), (1, .ldc2_w 193, 3), (4, .ldc2_w 507, 3), (7, .invokestatic 59, 3), (10, .ifCond .eq 16, 3), (13, .lload_n 2, 1), (14, .ldc2_w 193, 3), (17, .ldc2_w 507, 3), (20, .invokestatic 59, 3), (23, .ifCond .ne 14, 3), (26, .new 63, 3), (29, .dup, 1), (30, .ldc_w 509, 3), (33, .invokespecial 67, 3), (36, .athrow, 1), (37, .return_, 1)]
theorem iX10_requireCoordinates_ok : gDecs mX10_requireCoordinates iX10_requireCoordinates := by decide +kernel
def iX10_requireKern : List (Nat × Instr × Nat) := [(0, .iload_n 0, 1), (1, .i2l, 1), (2, .ldc2_w 511, 3), (5, .ldc2_w 513, 3), (8, .invokestatic 59, 3), (11, .ifCond .ne 14, 3), (14, .new 63, 3), (17, .dup, 1), (18, .ldc_w 515, 3), (21, .invokespecial 67, 3), (24, .athrow, 1), (25, .return_, 1)]
theorem iX10_requireKern_ok : gDecs mX10_requireKern iX10_requireKern := by decide +kernel
def iX10_requireGrid : List (Nat × Instr × Nat) := [(0, .iload_n 0, 1), (1, .i2l, 1), (2, .ldc2_w 517, 3), (5, .iload_n 1, 1), (6, .i2l, 1), (7, .invokestatic 59, 3), (10, .ifCond .ne 14, 3), (13, .new 63, 3), (16, .dup, 1), (17, .ldc_w 519, 3), (20, .invokespecial 67, 3), (23, .athrow, 1), (24, .return_, 1)]
theorem iX10_requireGrid_ok : gDecs mX10_requireGrid iX10_requireGrid := by decide +kernel
def iX10_requireMeasure : List (Nat × Instr × Nat) := [(0, .iload_n 0, 1), (1, .i2l, 1), (2, .lconst 1, 1), (3, .ldc2_w 521, 3), (6, .invokestatic 59, 3), (9, .ifCond .ne 14, 3), (12, .new 63, 3), (15, .dup, 1), (16, .ldc_w 523, 3), (19, .invokespecial 67, 3), (22, .athrow, 1), (23, .return_, 1)]
theorem iX10_requireMeasure_ok : gDecs mX10_requireMeasure iX10_requireMeasure := by decide +kernel

theorem i2l_pred {n : Nat} (h : n < 2 ^ 31) : (nI n - 1).toInt64.toInt = (n : Int) - 1 := by
  rw [i2l_toInt]
  cases n with
  | zero => decide +kernel
  | succ k => rw [nI_pred, nI_toInt (by omega)]; omega

set_option maxHeartbeats 4000000 in
set_option maxRecDepth 100000 in
theorem ctX10_requireGlyph {κ : gK} {σ : gST} {g : Int32} (hW : gDW σ) (hh : (0 ≤ g.toInt ∧ g.toInt ≤ (gNg σ : Int) - 1)) : gCt κ mX10_requireGlyph 6 [.ref (κ.2.1 + 0), .int g] σ (.inl none) σ 0 := by
  refine ct_of (by decide +kernel) rfl (Nat.le_of_ble_eq_true rfl) rfl ?_
  refine go_iload_n (q := 1) (gDec iX10_requireGlyph_ok 0 rfl) rfl rfl rfl ?_
  refine go_i2l (q := 2) (gDec iX10_requireGlyph_ok 1 rfl) rfl ?_
  refine go_lconst (v := 0) (q := 3) (gDec iX10_requireGlyph_ok 2 rfl) (by decide) rfl ?_
  refine go_aload_n (q := 4) (gDec iX10_requireGlyph_ok 3 rfl) rfl rfl rfl ?_
  refine go_getr (r' := 1) (q := 7) fX10_10 (gDec iX10_requireGlyph_ok 4 rfl) rfl (by decide) rfl ?_
  refine go_getr (r' := 2) (q := 10) fX10_70 (gDec iX10_requireGlyph_ok 5 rfl) rfl (by decide) rfl ?_
  refine go_callV (n2 := 0) (q := 13) kX10_432 ctX5_glyphCount (gDec iX10_requireGlyph_ok 6 rfl) rfl rfl (by decide) rfl rfl rfl (Nat.le_of_ble_eq_true rfl) rfl (gFit_rm (by decide) (by decide)) rfl ?_
  refine go_top (v' := nI (gNg σ)) (hW.ng) ?_
  refine go_iconst (v := 1) (q := 14) (gDec iX10_requireGlyph_ok 7 rfl) (by decide) rfl ?_
  refine go_isub (q := 15) (gDec iX10_requireGlyph_ok 8 rfl) rfl ?_
  refine go_i2l (q := 16) (gDec iX10_requireGlyph_ok 9 rfl) rfl ?_
  refine go_callS (n2 := 0) (q := 19) kX10_59 ctX10_isWithin (gDec iX10_requireGlyph_ok 10 rfl) rfl rfl (Nat.le_of_ble_eq_true rfl) rfl (gFit_rm (by decide) (by decide)) rfl ?_
  refine go_top (v' := 1) (gWi_t (by have h24 := hW.ng24; rw [i2l_toInt, i2l_pred (by omega), show ((0 : Int64)).toInt = 0 from rfl]; exact hh)) ?_
  refine go_if_ne (t := 33) (q := 22) (gDec iX10_requireGlyph_ok 11 rfl) (by decide) rfl (fun c19 => ?_) (fun c19 => False.elim (absurd c19 (by decide)))
  exact go_return (gDec iX10_requireGlyph_ok 17 rfl) rfl rfl rfl (by decide)

set_option maxHeartbeats 4000000 in
set_option maxRecDepth 100000 in
theorem ctX10_requireGlyph_x {κ : gK} {σ : gST} {g : Int32} (hW : gDW σ) (hh : ¬ (0 ≤ g.toInt ∧ g.toInt ≤ (gNg σ : Int) - 1)) : gCt κ mX10_requireGlyph 6 [.ref (κ.2.1 + 0), .int g] σ (.inr "java/lang/IndexOutOfBoundsException") σ 1 := by
  refine ct_of (by decide +kernel) rfl (Nat.le_of_ble_eq_true rfl) rfl ?_
  refine go_iload_n (q := 1) (gDec iX10_requireGlyph_ok 0 rfl) rfl rfl rfl ?_
  refine go_i2l (q := 2) (gDec iX10_requireGlyph_ok 1 rfl) rfl ?_
  refine go_lconst (v := 0) (q := 3) (gDec iX10_requireGlyph_ok 2 rfl) (by decide) rfl ?_
  refine go_aload_n (q := 4) (gDec iX10_requireGlyph_ok 3 rfl) rfl rfl rfl ?_
  refine go_getr (r' := 1) (q := 7) fX10_10 (gDec iX10_requireGlyph_ok 4 rfl) rfl (by decide) rfl ?_
  refine go_getr (r' := 2) (q := 10) fX10_70 (gDec iX10_requireGlyph_ok 5 rfl) rfl (by decide) rfl ?_
  refine go_callV (n2 := 0) (q := 13) kX10_432 ctX5_glyphCount (gDec iX10_requireGlyph_ok 6 rfl) rfl rfl (by decide) rfl rfl rfl (Nat.le_of_ble_eq_true rfl) rfl (gFit_rm (by decide) (by decide)) rfl ?_
  refine go_top (v' := nI (gNg σ)) (hW.ng) ?_
  refine go_iconst (v := 1) (q := 14) (gDec iX10_requireGlyph_ok 7 rfl) (by decide) rfl ?_
  refine go_isub (q := 15) (gDec iX10_requireGlyph_ok 8 rfl) rfl ?_
  refine go_i2l (q := 16) (gDec iX10_requireGlyph_ok 9 rfl) rfl ?_
  refine go_callS (n2 := 0) (q := 19) kX10_59 ctX10_isWithin (gDec iX10_requireGlyph_ok 10 rfl) rfl rfl (Nat.le_of_ble_eq_true rfl) rfl (gFit_rm (by decide) (by decide)) rfl ?_
  refine go_top (v' := 0) (gWi_f (by have h24 := hW.ng24; rw [i2l_toInt, i2l_pred (by omega), show ((0 : Int64)).toInt = 0 from rfl]; exact hh)) ?_
  refine go_if_ne (t := 33) (q := 22) (gDec iX10_requireGlyph_ok 11 rfl) (by decide) rfl (fun c19 => False.elim (c19 rfl)) (fun c19 => ?_)
  exact go_throwW th_IndexOutOfBoundsException (List.mem_of_getElem? (i := 2) rfl) rfl rfl (gDec iX10_requireGlyph_ok 12 rfl) (gDec iX10_requireGlyph_ok 13 rfl) (gDec iX10_requireGlyph_ok 14 rfl) (gDec iX10_requireGlyph_ok 15 rfl) (gDec iX10_requireGlyph_ok 16 rfl) (by decide) (by decide)

set_option maxHeartbeats 4000000 in
set_option maxRecDepth 100000 in
theorem ctX10_requireContour {κ : gK} {σ : gST} {g : Nat} {c : Int32} (hW : gDW σ) (hg : g < gNg σ) (hh : (0 ≤ c.toInt ∧ c.toInt ≤ (gNc σ g : Int) - 1)) : gCt κ mX10_requireContour 7 [.ref (κ.2.1 + 0), .int (nI g), .int c] σ (.inl none) σ 0 := by
  refine ct_of (by decide +kernel) rfl (Nat.le_of_ble_eq_true rfl) rfl ?_
  have h24 := hW.ng24
  have h3 := hW.nc3 (g := g) (by omega)
  refine go_aload_n (q := 1) (gDec iX10_requireContour_ok 0 rfl) rfl rfl rfl ?_
  refine go_iload_n (q := 2) (gDec iX10_requireContour_ok 1 rfl) rfl rfl rfl ?_
  refine go_callV (n2 := 0) (q := 5) kX10_96 (ctX10_requireGlyph (g := nI g) hW (by rw [nI_toInt (by omega)]; omega)) (gDec iX10_requireContour_ok 2 rfl) rfl rfl (by decide) rfl rfl rfl (Nat.le_of_ble_eq_true rfl) rfl (gFit_rm (by decide) (by decide)) rfl ?_
  refine go_iload_n (q := 6) (gDec iX10_requireContour_ok 3 rfl) rfl rfl rfl ?_
  refine go_i2l (q := 7) (gDec iX10_requireContour_ok 4 rfl) rfl ?_
  refine go_lconst (v := 0) (q := 8) (gDec iX10_requireContour_ok 5 rfl) (by decide) rfl ?_
  refine go_aload_n (q := 9) (gDec iX10_requireContour_ok 6 rfl) rfl rfl rfl ?_
  refine go_getr (r' := 1) (q := 12) fX10_10 (gDec iX10_requireContour_ok 7 rfl) rfl (by decide) rfl ?_
  refine go_getr (r' := 2) (q := 15) fX10_70 (gDec iX10_requireContour_ok 8 rfl) rfl (by decide) rfl ?_
  refine go_iload_n (q := 16) (gDec iX10_requireContour_ok 9 rfl) rfl rfl rfl ?_
  refine go_callV (n2 := 0) (q := 19) kX10_106 (ctX5_contourCount (g := g) (by omega)) (gDec iX10_requireContour_ok 10 rfl) rfl rfl (by decide) rfl rfl rfl (Nat.le_of_ble_eq_true rfl) rfl (gFit_rm (by decide) (by decide)) rfl ?_
  refine go_top (v' := nI (gNc σ g)) (hW.nc (by omega)) ?_
  refine go_iconst (v := 1) (q := 20) (gDec iX10_requireContour_ok 11 rfl) (by decide) rfl ?_
  refine go_isub (q := 21) (gDec iX10_requireContour_ok 12 rfl) rfl ?_
  refine go_i2l (q := 22) (gDec iX10_requireContour_ok 13 rfl) rfl ?_
  refine go_callS (n2 := 0) (q := 25) kX10_59 ctX10_isWithin (gDec iX10_requireContour_ok 14 rfl) rfl rfl (Nat.le_of_ble_eq_true rfl) rfl (gFit_rm (by decide) (by decide)) rfl ?_
  refine go_top (v' := 1) (gWi_t (by rw [i2l_toInt, i2l_pred (by omega), show ((0 : Int64)).toInt = 0 from rfl]; exact hh)) ?_
  refine go_if_ne (t := 39) (q := 28) (gDec iX10_requireContour_ok 15 rfl) (by decide) rfl (fun c25 => ?_) (fun c25 => False.elim (absurd c25 (by decide)))
  exact go_return (gDec iX10_requireContour_ok 21 rfl) rfl rfl rfl (by decide)

set_option maxHeartbeats 4000000 in
set_option maxRecDepth 100000 in
theorem ctX10_requireContour_x {κ : gK} {σ : gST} {g : Nat} {c : Int32} (hW : gDW σ) (hg : g < gNg σ) (hh : ¬ (0 ≤ c.toInt ∧ c.toInt ≤ (gNc σ g : Int) - 1)) : gCt κ mX10_requireContour 7 [.ref (κ.2.1 + 0), .int (nI g), .int c] σ (.inr "java/lang/IndexOutOfBoundsException") σ 1 := by
  refine ct_of (by decide +kernel) rfl (Nat.le_of_ble_eq_true rfl) rfl ?_
  have h24 := hW.ng24
  have h3 := hW.nc3 (g := g) (by omega)
  refine go_aload_n (q := 1) (gDec iX10_requireContour_ok 0 rfl) rfl rfl rfl ?_
  refine go_iload_n (q := 2) (gDec iX10_requireContour_ok 1 rfl) rfl rfl rfl ?_
  refine go_callV (n2 := 0) (q := 5) kX10_96 (ctX10_requireGlyph (g := nI g) hW (by rw [nI_toInt (by omega)]; omega)) (gDec iX10_requireContour_ok 2 rfl) rfl rfl (by decide) rfl rfl rfl (Nat.le_of_ble_eq_true rfl) rfl (gFit_rm (by decide) (by decide)) rfl ?_
  refine go_iload_n (q := 6) (gDec iX10_requireContour_ok 3 rfl) rfl rfl rfl ?_
  refine go_i2l (q := 7) (gDec iX10_requireContour_ok 4 rfl) rfl ?_
  refine go_lconst (v := 0) (q := 8) (gDec iX10_requireContour_ok 5 rfl) (by decide) rfl ?_
  refine go_aload_n (q := 9) (gDec iX10_requireContour_ok 6 rfl) rfl rfl rfl ?_
  refine go_getr (r' := 1) (q := 12) fX10_10 (gDec iX10_requireContour_ok 7 rfl) rfl (by decide) rfl ?_
  refine go_getr (r' := 2) (q := 15) fX10_70 (gDec iX10_requireContour_ok 8 rfl) rfl (by decide) rfl ?_
  refine go_iload_n (q := 16) (gDec iX10_requireContour_ok 9 rfl) rfl rfl rfl ?_
  refine go_callV (n2 := 0) (q := 19) kX10_106 (ctX5_contourCount (g := g) (by omega)) (gDec iX10_requireContour_ok 10 rfl) rfl rfl (by decide) rfl rfl rfl (Nat.le_of_ble_eq_true rfl) rfl (gFit_rm (by decide) (by decide)) rfl ?_
  refine go_top (v' := nI (gNc σ g)) (hW.nc (by omega)) ?_
  refine go_iconst (v := 1) (q := 20) (gDec iX10_requireContour_ok 11 rfl) (by decide) rfl ?_
  refine go_isub (q := 21) (gDec iX10_requireContour_ok 12 rfl) rfl ?_
  refine go_i2l (q := 22) (gDec iX10_requireContour_ok 13 rfl) rfl ?_
  refine go_callS (n2 := 0) (q := 25) kX10_59 ctX10_isWithin (gDec iX10_requireContour_ok 14 rfl) rfl rfl (Nat.le_of_ble_eq_true rfl) rfl (gFit_rm (by decide) (by decide)) rfl ?_
  refine go_top (v' := 0) (gWi_f (by rw [i2l_toInt, i2l_pred (by omega), show ((0 : Int64)).toInt = 0 from rfl]; exact hh)) ?_
  refine go_if_ne (t := 39) (q := 28) (gDec iX10_requireContour_ok 15 rfl) (by decide) rfl (fun c25 => False.elim (c25 rfl)) (fun c25 => ?_)
  exact go_throwW th_IndexOutOfBoundsException (List.mem_of_getElem? (i := 6) rfl) rfl rfl (gDec iX10_requireContour_ok 16 rfl) (gDec iX10_requireContour_ok 17 rfl) (gDec iX10_requireContour_ok 18 rfl) (gDec iX10_requireContour_ok 19 rfl) (gDec iX10_requireContour_ok 20 rfl) (by decide) (by decide)

set_option maxHeartbeats 4000000 in
set_option maxRecDepth 100000 in
theorem ctX10_requireContour_g {κ : gK} {σ : gST} {g c : Int32} (hW : gDW σ) (hh : ¬ (0 ≤ g.toInt ∧ g.toInt ≤ (gNg σ : Int) - 1)) : gCt κ mX10_requireContour 7 [.ref (κ.2.1 + 0), .int g, .int c] σ (.inr "java/lang/IndexOutOfBoundsException") σ 1 := by
  refine ct_of (by decide +kernel) rfl (Nat.le_of_ble_eq_true rfl) rfl ?_
  refine go_aload_n (q := 1) (gDec iX10_requireContour_ok 0 rfl) rfl rfl rfl ?_
  refine go_iload_n (q := 2) (gDec iX10_requireContour_ok 1 rfl) rfl rfl rfl ?_
  exact go_callV_x kX10_96 (ctX10_requireGlyph_x hW hh) (gDec iX10_requireContour_ok 2 rfl) rfl rfl (by decide) rfl rfl rfl (Nat.le_of_ble_eq_true rfl) (gFit_rm (by decide) (by decide)) rfl

set_option maxHeartbeats 4000000 in
set_option maxRecDepth 100000 in
theorem ctX10_requirePoint {κ : gK} {σ : gST} {g c : Nat} {p : Int32} (hW : gDW σ) (hg : g < gNg σ) (hc : c < gNc σ g) (hh : (0 ≤ p.toInt ∧ p.toInt ≤ (gNp σ g c : Int) - 1)) : gCt κ mX10_requirePoint 8 [.ref (κ.2.1 + 0), .int (nI g), .int (nI c), .int p] σ (.inl none) σ 0 := by
  refine ct_of (by decide +kernel) rfl (Nat.le_of_ble_eq_true rfl) rfl ?_
  have h24 := hW.ng24
  have h3 := hW.nc3 (g := g) (by omega)
  have h12 := hW.np12 (g := g) (c := c) (by omega) (by omega)
  refine go_aload_n (q := 1) (gDec iX10_requirePoint_ok 0 rfl) rfl rfl rfl ?_
  refine go_iload_n (q := 2) (gDec iX10_requirePoint_ok 1 rfl) rfl rfl rfl ?_
  refine go_iload_n (q := 3) (gDec iX10_requirePoint_ok 2 rfl) rfl rfl rfl ?_
  refine go_callV (n2 := 0) (q := 6) kX10_179 (ctX10_requireContour (g := g) (c := nI c) hW hg (by rw [nI_toInt (by omega)]; omega)) (gDec iX10_requirePoint_ok 3 rfl) rfl rfl (by decide) rfl rfl rfl (Nat.le_of_ble_eq_true rfl) rfl (gFit_rm (by decide) (by decide)) rfl ?_
  refine go_iload_n (q := 7) (gDec iX10_requirePoint_ok 4 rfl) rfl rfl rfl ?_
  refine go_i2l (q := 8) (gDec iX10_requirePoint_ok 5 rfl) rfl ?_
  refine go_lconst (v := 0) (q := 9) (gDec iX10_requirePoint_ok 6 rfl) (by decide) rfl ?_
  refine go_aload_n (q := 10) (gDec iX10_requirePoint_ok 7 rfl) rfl rfl rfl ?_
  refine go_getr (r' := 1) (q := 13) fX10_10 (gDec iX10_requirePoint_ok 8 rfl) rfl (by decide) rfl ?_
  refine go_getr (r' := 2) (q := 16) fX10_70 (gDec iX10_requirePoint_ok 9 rfl) rfl (by decide) rfl ?_
  refine go_iload_n (q := 17) (gDec iX10_requirePoint_ok 10 rfl) rfl rfl rfl ?_
  refine go_iload_n (q := 18) (gDec iX10_requirePoint_ok 11 rfl) rfl rfl rfl ?_
  refine go_callV (n2 := 0) (q := 21) kX10_183 (ctX5_pointCount (g := g) (c := c) (by omega) (by omega)) (gDec iX10_requirePoint_ok 12 rfl) rfl rfl (by decide) rfl rfl rfl (Nat.le_of_ble_eq_true rfl) rfl (gFit_rm (by decide) (by decide)) rfl ?_
  refine go_top (v' := nI (gNp σ g c)) (hW.np (by omega) (by omega)) ?_
  refine go_iconst (v := 1) (q := 22) (gDec iX10_requirePoint_ok 13 rfl) (by decide) rfl ?_
  refine go_isub (q := 23) (gDec iX10_requirePoint_ok 14 rfl) rfl ?_
  refine go_i2l (q := 24) (gDec iX10_requirePoint_ok 15 rfl) rfl ?_
  refine go_callS (n2 := 0) (q := 27) kX10_59 ctX10_isWithin (gDec iX10_requirePoint_ok 16 rfl) rfl rfl (Nat.le_of_ble_eq_true rfl) rfl (gFit_rm (by decide) (by decide)) rfl ?_
  refine go_top (v' := 1) (gWi_t (by rw [i2l_toInt, i2l_pred (by omega), show ((0 : Int64)).toInt = 0 from rfl]; exact hh)) ?_
  refine go_if_ne (t := 41) (q := 30) (gDec iX10_requirePoint_ok 17 rfl) (by decide) rfl (fun c27 => ?_) (fun c27 => False.elim (absurd c27 (by decide)))
  exact go_return (gDec iX10_requirePoint_ok 23 rfl) rfl rfl rfl (by decide)

set_option maxHeartbeats 4000000 in
set_option maxRecDepth 100000 in
theorem ctX10_requirePoint_x {κ : gK} {σ : gST} {g c : Nat} {p : Int32} (hW : gDW σ) (hg : g < gNg σ) (hc : c < gNc σ g) (hh : ¬ (0 ≤ p.toInt ∧ p.toInt ≤ (gNp σ g c : Int) - 1)) : gCt κ mX10_requirePoint 8 [.ref (κ.2.1 + 0), .int (nI g), .int (nI c), .int p] σ (.inr "java/lang/IndexOutOfBoundsException") σ 1 := by
  refine ct_of (by decide +kernel) rfl (Nat.le_of_ble_eq_true rfl) rfl ?_
  have h24 := hW.ng24
  have h3 := hW.nc3 (g := g) (by omega)
  have h12 := hW.np12 (g := g) (c := c) (by omega) (by omega)
  refine go_aload_n (q := 1) (gDec iX10_requirePoint_ok 0 rfl) rfl rfl rfl ?_
  refine go_iload_n (q := 2) (gDec iX10_requirePoint_ok 1 rfl) rfl rfl rfl ?_
  refine go_iload_n (q := 3) (gDec iX10_requirePoint_ok 2 rfl) rfl rfl rfl ?_
  refine go_callV (n2 := 0) (q := 6) kX10_179 (ctX10_requireContour (g := g) (c := nI c) hW hg (by rw [nI_toInt (by omega)]; omega)) (gDec iX10_requirePoint_ok 3 rfl) rfl rfl (by decide) rfl rfl rfl (Nat.le_of_ble_eq_true rfl) rfl (gFit_rm (by decide) (by decide)) rfl ?_
  refine go_iload_n (q := 7) (gDec iX10_requirePoint_ok 4 rfl) rfl rfl rfl ?_
  refine go_i2l (q := 8) (gDec iX10_requirePoint_ok 5 rfl) rfl ?_
  refine go_lconst (v := 0) (q := 9) (gDec iX10_requirePoint_ok 6 rfl) (by decide) rfl ?_
  refine go_aload_n (q := 10) (gDec iX10_requirePoint_ok 7 rfl) rfl rfl rfl ?_
  refine go_getr (r' := 1) (q := 13) fX10_10 (gDec iX10_requirePoint_ok 8 rfl) rfl (by decide) rfl ?_
  refine go_getr (r' := 2) (q := 16) fX10_70 (gDec iX10_requirePoint_ok 9 rfl) rfl (by decide) rfl ?_
  refine go_iload_n (q := 17) (gDec iX10_requirePoint_ok 10 rfl) rfl rfl rfl ?_
  refine go_iload_n (q := 18) (gDec iX10_requirePoint_ok 11 rfl) rfl rfl rfl ?_
  refine go_callV (n2 := 0) (q := 21) kX10_183 (ctX5_pointCount (g := g) (c := c) (by omega) (by omega)) (gDec iX10_requirePoint_ok 12 rfl) rfl rfl (by decide) rfl rfl rfl (Nat.le_of_ble_eq_true rfl) rfl (gFit_rm (by decide) (by decide)) rfl ?_
  refine go_top (v' := nI (gNp σ g c)) (hW.np (by omega) (by omega)) ?_
  refine go_iconst (v := 1) (q := 22) (gDec iX10_requirePoint_ok 13 rfl) (by decide) rfl ?_
  refine go_isub (q := 23) (gDec iX10_requirePoint_ok 14 rfl) rfl ?_
  refine go_i2l (q := 24) (gDec iX10_requirePoint_ok 15 rfl) rfl ?_
  refine go_callS (n2 := 0) (q := 27) kX10_59 ctX10_isWithin (gDec iX10_requirePoint_ok 16 rfl) rfl rfl (Nat.le_of_ble_eq_true rfl) rfl (gFit_rm (by decide) (by decide)) rfl ?_
  refine go_top (v' := 0) (gWi_f (by rw [i2l_toInt, i2l_pred (by omega), show ((0 : Int64)).toInt = 0 from rfl]; exact hh)) ?_
  refine go_if_ne (t := 41) (q := 30) (gDec iX10_requirePoint_ok 17 rfl) (by decide) rfl (fun c27 => False.elim (c27 rfl)) (fun c27 => ?_)
  exact go_throwW th_IndexOutOfBoundsException (List.mem_of_getElem? (i := 7) rfl) rfl rfl (gDec iX10_requirePoint_ok 18 rfl) (gDec iX10_requirePoint_ok 19 rfl) (gDec iX10_requirePoint_ok 20 rfl) (gDec iX10_requirePoint_ok 21 rfl) (gDec iX10_requirePoint_ok 22 rfl) (by decide) (by decide)

set_option maxHeartbeats 4000000 in
set_option maxRecDepth 100000 in
theorem ctX10_requirePoint_g {κ : gK} {σ : gST} {g c p : Int32} (hW : gDW σ) (hh : ¬ (0 ≤ g.toInt ∧ g.toInt ≤ (gNg σ : Int) - 1)) : gCt κ mX10_requirePoint 8 [.ref (κ.2.1 + 0), .int g, .int c, .int p] σ (.inr "java/lang/IndexOutOfBoundsException") σ 1 := by
  refine ct_of (by decide +kernel) rfl (Nat.le_of_ble_eq_true rfl) rfl ?_
  refine go_aload_n (q := 1) (gDec iX10_requirePoint_ok 0 rfl) rfl rfl rfl ?_
  refine go_iload_n (q := 2) (gDec iX10_requirePoint_ok 1 rfl) rfl rfl rfl ?_
  refine go_iload_n (q := 3) (gDec iX10_requirePoint_ok 2 rfl) rfl rfl rfl ?_
  exact go_callV_x kX10_179 (ctX10_requireContour_g hW hh) (gDec iX10_requirePoint_ok 3 rfl) rfl rfl (by decide) rfl rfl rfl (Nat.le_of_ble_eq_true rfl) (gFit_rm (by decide) (by decide)) rfl

set_option maxHeartbeats 4000000 in
set_option maxRecDepth 100000 in
theorem ctX10_requirePoint_c {κ : gK} {σ : gST} {g : Nat} {c p : Int32} (hW : gDW σ) (hg : g < gNg σ) (hh : ¬ (0 ≤ c.toInt ∧ c.toInt ≤ (gNc σ g : Int) - 1)) : gCt κ mX10_requirePoint 8 [.ref (κ.2.1 + 0), .int (nI g), .int c, .int p] σ (.inr "java/lang/IndexOutOfBoundsException") σ 1 := by
  refine ct_of (by decide +kernel) rfl (Nat.le_of_ble_eq_true rfl) rfl ?_
  refine go_aload_n (q := 1) (gDec iX10_requirePoint_ok 0 rfl) rfl rfl rfl ?_
  refine go_iload_n (q := 2) (gDec iX10_requirePoint_ok 1 rfl) rfl rfl rfl ?_
  refine go_iload_n (q := 3) (gDec iX10_requirePoint_ok 2 rfl) rfl rfl rfl ?_
  exact go_callV_x kX10_179 (ctX10_requireContour_x hW hg hh) (gDec iX10_requirePoint_ok 3 rfl) rfl rfl (by decide) rfl rfl rfl (Nat.le_of_ble_eq_true rfl) (gFit_rm (by decide) (by decide)) rfl

set_option maxHeartbeats 4000000 in
set_option maxRecDepth 100000 in
theorem ctX10_requireSide {κ : gK} {σ : gST} {g : Nat} {s : Int32} (hW : gDW σ) (hg : g < gNg σ) (hh : (0 ≤ s.toInt ∧ s.toInt ≤ 1)) : gCt κ mX10_requireSide 7 [.ref (κ.2.1 + 0), .int (nI g), .int s] σ (.inl none) σ 0 := by
  refine ct_of (by decide +kernel) rfl (Nat.le_of_ble_eq_true rfl) rfl ?_
  have h24 := hW.ng24
  refine go_aload_n (q := 1) (gDec iX10_requireSide_ok 0 rfl) rfl rfl rfl ?_
  refine go_iload_n (q := 2) (gDec iX10_requireSide_ok 1 rfl) rfl rfl rfl ?_
  refine go_callV (n2 := 0) (q := 5) kX10_96 (ctX10_requireGlyph (g := nI g) hW (by rw [nI_toInt (by omega)]; omega)) (gDec iX10_requireSide_ok 2 rfl) rfl rfl (by decide) rfl rfl rfl (Nat.le_of_ble_eq_true rfl) rfl (gFit_rm (by decide) (by decide)) rfl ?_
  refine go_iload_n (q := 6) (gDec iX10_requireSide_ok 3 rfl) rfl rfl rfl ?_
  refine go_i2l (q := 7) (gDec iX10_requireSide_ok 4 rfl) rfl ?_
  refine go_lconst (v := 0) (q := 8) (gDec iX10_requireSide_ok 5 rfl) (by decide) rfl ?_
  refine go_lconst (v := 1) (q := 9) (gDec iX10_requireSide_ok 6 rfl) (by decide) rfl ?_
  refine go_callS (n2 := 0) (q := 12) kX10_59 ctX10_isWithin (gDec iX10_requireSide_ok 7 rfl) rfl rfl (Nat.le_of_ble_eq_true rfl) rfl (gFit_rm (by decide) (by decide)) rfl ?_
  refine go_top (v' := 1) (gWi_t (by rw [i2l_toInt, show ((0 : Int64)).toInt = 0 from rfl, show ((1 : Int64)).toInt = 1 from rfl]; exact hh)) ?_
  refine go_if_ne (t := 26) (q := 15) (gDec iX10_requireSide_ok 8 rfl) (by decide) rfl (fun c12 => ?_) (fun c12 => False.elim (absurd c12 (by decide)))
  exact go_return (gDec iX10_requireSide_ok 14 rfl) rfl rfl rfl (by decide)

set_option maxHeartbeats 4000000 in
set_option maxRecDepth 100000 in
theorem ctX10_requireSide_x {κ : gK} {σ : gST} {g : Nat} {s : Int32} (hW : gDW σ) (hg : g < gNg σ) (hh : ¬ (0 ≤ s.toInt ∧ s.toInt ≤ 1)) : gCt κ mX10_requireSide 7 [.ref (κ.2.1 + 0), .int (nI g), .int s] σ (.inr "java/lang/IndexOutOfBoundsException") σ 1 := by
  refine ct_of (by decide +kernel) rfl (Nat.le_of_ble_eq_true rfl) rfl ?_
  have h24 := hW.ng24
  refine go_aload_n (q := 1) (gDec iX10_requireSide_ok 0 rfl) rfl rfl rfl ?_
  refine go_iload_n (q := 2) (gDec iX10_requireSide_ok 1 rfl) rfl rfl rfl ?_
  refine go_callV (n2 := 0) (q := 5) kX10_96 (ctX10_requireGlyph (g := nI g) hW (by rw [nI_toInt (by omega)]; omega)) (gDec iX10_requireSide_ok 2 rfl) rfl rfl (by decide) rfl rfl rfl (Nat.le_of_ble_eq_true rfl) rfl (gFit_rm (by decide) (by decide)) rfl ?_
  refine go_iload_n (q := 6) (gDec iX10_requireSide_ok 3 rfl) rfl rfl rfl ?_
  refine go_i2l (q := 7) (gDec iX10_requireSide_ok 4 rfl) rfl ?_
  refine go_lconst (v := 0) (q := 8) (gDec iX10_requireSide_ok 5 rfl) (by decide) rfl ?_
  refine go_lconst (v := 1) (q := 9) (gDec iX10_requireSide_ok 6 rfl) (by decide) rfl ?_
  refine go_callS (n2 := 0) (q := 12) kX10_59 ctX10_isWithin (gDec iX10_requireSide_ok 7 rfl) rfl rfl (Nat.le_of_ble_eq_true rfl) rfl (gFit_rm (by decide) (by decide)) rfl ?_
  refine go_top (v' := 0) (gWi_f (by rw [i2l_toInt, show ((0 : Int64)).toInt = 0 from rfl, show ((1 : Int64)).toInt = 1 from rfl]; exact hh)) ?_
  refine go_if_ne (t := 26) (q := 15) (gDec iX10_requireSide_ok 8 rfl) (by decide) rfl (fun c12 => False.elim (c12 rfl)) (fun c12 => ?_)
  exact go_throwW th_IndexOutOfBoundsException (List.mem_of_getElem? (i := 10) rfl) rfl rfl (gDec iX10_requireSide_ok 9 rfl) (gDec iX10_requireSide_ok 10 rfl) (gDec iX10_requireSide_ok 11 rfl) (gDec iX10_requireSide_ok 12 rfl) (gDec iX10_requireSide_ok 13 rfl) (by decide) (by decide)

set_option maxHeartbeats 4000000 in
set_option maxRecDepth 100000 in
theorem ctX10_requireSide_g {κ : gK} {σ : gST} {g s : Int32} (hW : gDW σ) (hh : ¬ (0 ≤ g.toInt ∧ g.toInt ≤ (gNg σ : Int) - 1)) : gCt κ mX10_requireSide 7 [.ref (κ.2.1 + 0), .int g, .int s] σ (.inr "java/lang/IndexOutOfBoundsException") σ 1 := by
  refine ct_of (by decide +kernel) rfl (Nat.le_of_ble_eq_true rfl) rfl ?_
  refine go_aload_n (q := 1) (gDec iX10_requireSide_ok 0 rfl) rfl rfl rfl ?_
  refine go_iload_n (q := 2) (gDec iX10_requireSide_ok 1 rfl) rfl rfl rfl ?_
  exact go_callV_x kX10_96 (ctX10_requireGlyph_x hW hh) (gDec iX10_requireSide_ok 2 rfl) rfl rfl (by decide) rfl rfl rfl (Nat.le_of_ble_eq_true rfl) (gFit_rm (by decide) (by decide)) rfl

set_option maxHeartbeats 4000000 in
set_option maxRecDepth 100000 in
theorem ctX10_requireStem {κ : gK} {σ : gST} {g : Nat} {s : Int32} (hW : gDW σ) (hg : g < gNg σ) (hh : (0 ≤ s.toInt ∧ s.toInt ≤ (gNs σ g : Int) - 1)) : gCt κ mX10_requireStem 7 [.ref (κ.2.1 + 0), .int (nI g), .int s] σ (.inl none) σ 0 := by
  refine ct_of (by decide +kernel) rfl (Nat.le_of_ble_eq_true rfl) rfl ?_
  have h24 := hW.ng24
  have h4 := hW.ns4 (g := g) (by omega)
  refine go_aload_n (q := 1) (gDec iX10_requireStem_ok 0 rfl) rfl rfl rfl ?_
  refine go_iload_n (q := 2) (gDec iX10_requireStem_ok 1 rfl) rfl rfl rfl ?_
  refine go_callV (n2 := 0) (q := 5) kX10_96 (ctX10_requireGlyph (g := nI g) hW (by rw [nI_toInt (by omega)]; omega)) (gDec iX10_requireStem_ok 2 rfl) rfl rfl (by decide) rfl rfl rfl (Nat.le_of_ble_eq_true rfl) rfl (gFit_rm (by decide) (by decide)) rfl ?_
  refine go_iload_n (q := 6) (gDec iX10_requireStem_ok 3 rfl) rfl rfl rfl ?_
  refine go_i2l (q := 7) (gDec iX10_requireStem_ok 4 rfl) rfl ?_
  refine go_lconst (v := 0) (q := 8) (gDec iX10_requireStem_ok 5 rfl) (by decide) rfl ?_
  refine go_aload_n (q := 9) (gDec iX10_requireStem_ok 6 rfl) rfl rfl rfl ?_
  refine go_getr (r' := 1) (q := 12) fX10_10 (gDec iX10_requireStem_ok 7 rfl) rfl (by decide) rfl ?_
  refine go_getr (r' := 29) (q := 15) fX10_162 (gDec iX10_requireStem_ok 8 rfl) rfl (by decide) rfl ?_
  refine go_iload_n (q := 16) (gDec iX10_requireStem_ok 9 rfl) rfl rfl rfl ?_
  refine go_callV (n2 := 0) (q := 19) kX10_166 (ctX8_countOf (g := g) (by omega)) (gDec iX10_requireStem_ok 10 rfl) rfl rfl (by decide) rfl rfl rfl (Nat.le_of_ble_eq_true rfl) rfl (gFit_rm (by decide) (by decide)) rfl ?_
  refine go_top (v' := nI (gNs σ g)) (hW.ns (by omega)) ?_
  refine go_iconst (v := 1) (q := 20) (gDec iX10_requireStem_ok 11 rfl) (by decide) rfl ?_
  refine go_isub (q := 21) (gDec iX10_requireStem_ok 12 rfl) rfl ?_
  refine go_i2l (q := 22) (gDec iX10_requireStem_ok 13 rfl) rfl ?_
  refine go_callS (n2 := 0) (q := 25) kX10_59 ctX10_isWithin (gDec iX10_requireStem_ok 14 rfl) rfl rfl (Nat.le_of_ble_eq_true rfl) rfl (gFit_rm (by decide) (by decide)) rfl ?_
  refine go_top (v' := 1) (gWi_t (by rw [i2l_toInt, i2l_pred (by omega), show ((0 : Int64)).toInt = 0 from rfl]; exact hh)) ?_
  refine go_if_ne (t := 39) (q := 28) (gDec iX10_requireStem_ok 15 rfl) (by decide) rfl (fun c25 => ?_) (fun c25 => False.elim (absurd c25 (by decide)))
  exact go_return (gDec iX10_requireStem_ok 21 rfl) rfl rfl rfl (by decide)

set_option maxHeartbeats 4000000 in
set_option maxRecDepth 100000 in
theorem ctX10_requireStem_x {κ : gK} {σ : gST} {g : Nat} {s : Int32} (hW : gDW σ) (hg : g < gNg σ) (hh : ¬ (0 ≤ s.toInt ∧ s.toInt ≤ (gNs σ g : Int) - 1)) : gCt κ mX10_requireStem 7 [.ref (κ.2.1 + 0), .int (nI g), .int s] σ (.inr "java/lang/IndexOutOfBoundsException") σ 1 := by
  refine ct_of (by decide +kernel) rfl (Nat.le_of_ble_eq_true rfl) rfl ?_
  have h24 := hW.ng24
  have h4 := hW.ns4 (g := g) (by omega)
  refine go_aload_n (q := 1) (gDec iX10_requireStem_ok 0 rfl) rfl rfl rfl ?_
  refine go_iload_n (q := 2) (gDec iX10_requireStem_ok 1 rfl) rfl rfl rfl ?_
  refine go_callV (n2 := 0) (q := 5) kX10_96 (ctX10_requireGlyph (g := nI g) hW (by rw [nI_toInt (by omega)]; omega)) (gDec iX10_requireStem_ok 2 rfl) rfl rfl (by decide) rfl rfl rfl (Nat.le_of_ble_eq_true rfl) rfl (gFit_rm (by decide) (by decide)) rfl ?_
  refine go_iload_n (q := 6) (gDec iX10_requireStem_ok 3 rfl) rfl rfl rfl ?_
  refine go_i2l (q := 7) (gDec iX10_requireStem_ok 4 rfl) rfl ?_
  refine go_lconst (v := 0) (q := 8) (gDec iX10_requireStem_ok 5 rfl) (by decide) rfl ?_
  refine go_aload_n (q := 9) (gDec iX10_requireStem_ok 6 rfl) rfl rfl rfl ?_
  refine go_getr (r' := 1) (q := 12) fX10_10 (gDec iX10_requireStem_ok 7 rfl) rfl (by decide) rfl ?_
  refine go_getr (r' := 29) (q := 15) fX10_162 (gDec iX10_requireStem_ok 8 rfl) rfl (by decide) rfl ?_
  refine go_iload_n (q := 16) (gDec iX10_requireStem_ok 9 rfl) rfl rfl rfl ?_
  refine go_callV (n2 := 0) (q := 19) kX10_166 (ctX8_countOf (g := g) (by omega)) (gDec iX10_requireStem_ok 10 rfl) rfl rfl (by decide) rfl rfl rfl (Nat.le_of_ble_eq_true rfl) rfl (gFit_rm (by decide) (by decide)) rfl ?_
  refine go_top (v' := nI (gNs σ g)) (hW.ns (by omega)) ?_
  refine go_iconst (v := 1) (q := 20) (gDec iX10_requireStem_ok 11 rfl) (by decide) rfl ?_
  refine go_isub (q := 21) (gDec iX10_requireStem_ok 12 rfl) rfl ?_
  refine go_i2l (q := 22) (gDec iX10_requireStem_ok 13 rfl) rfl ?_
  refine go_callS (n2 := 0) (q := 25) kX10_59 ctX10_isWithin (gDec iX10_requireStem_ok 14 rfl) rfl rfl (Nat.le_of_ble_eq_true rfl) rfl (gFit_rm (by decide) (by decide)) rfl ?_
  refine go_top (v' := 0) (gWi_f (by rw [i2l_toInt, i2l_pred (by omega), show ((0 : Int64)).toInt = 0 from rfl]; exact hh)) ?_
  refine go_if_ne (t := 39) (q := 28) (gDec iX10_requireStem_ok 15 rfl) (by decide) rfl (fun c25 => False.elim (c25 rfl)) (fun c25 => ?_)
  exact go_throwW th_IndexOutOfBoundsException (List.mem_of_getElem? (i := 21) rfl) rfl rfl (gDec iX10_requireStem_ok 16 rfl) (gDec iX10_requireStem_ok 17 rfl) (gDec iX10_requireStem_ok 18 rfl) (gDec iX10_requireStem_ok 19 rfl) (gDec iX10_requireStem_ok 20 rfl) (by decide) (by decide)

set_option maxHeartbeats 4000000 in
set_option maxRecDepth 100000 in
theorem ctX10_requireStem_g {κ : gK} {σ : gST} {g s : Int32} (hW : gDW σ) (hh : ¬ (0 ≤ g.toInt ∧ g.toInt ≤ (gNg σ : Int) - 1)) : gCt κ mX10_requireStem 7 [.ref (κ.2.1 + 0), .int g, .int s] σ (.inr "java/lang/IndexOutOfBoundsException") σ 1 := by
  refine ct_of (by decide +kernel) rfl (Nat.le_of_ble_eq_true rfl) rfl ?_
  refine go_aload_n (q := 1) (gDec iX10_requireStem_ok 0 rfl) rfl rfl rfl ?_
  refine go_iload_n (q := 2) (gDec iX10_requireStem_ok 1 rfl) rfl rfl rfl ?_
  exact go_callV_x kX10_96 (ctX10_requireGlyph_x hW hh) (gDec iX10_requireStem_ok 2 rfl) rfl rfl (by decide) rfl rfl rfl (Nat.le_of_ble_eq_true rfl) (gFit_rm (by decide) (by decide)) rfl

set_option maxHeartbeats 4000000 in
set_option maxRecDepth 100000 in
theorem ctX10_requireKern {κ : gK} {σ : gST} {v : Int32} (hh : (-300 ≤ v.toInt ∧ v.toInt ≤ 300)) : gCt κ mX10_requireKern 6 [.int v] σ (.inl none) σ 0 := by
  refine ct_of (by decide +kernel) rfl (Nat.le_of_ble_eq_true rfl) rfl ?_
  refine go_iload_n (q := 1) (gDec iX10_requireKern_ok 0 rfl) rfl rfl rfl ?_
  refine go_i2l (q := 2) (gDec iX10_requireKern_ok 1 rfl) rfl ?_
  refine go_ldc2 (q := 5) wX10_511 (gDec iX10_requireKern_ok 2 rfl) rfl ?_
  refine go_ldc2 (q := 8) wX10_513 (gDec iX10_requireKern_ok 3 rfl) rfl ?_
  refine go_callS (n2 := 0) (q := 11) kX10_59 ctX10_isWithin (gDec iX10_requireKern_ok 4 rfl) rfl rfl (Nat.le_of_ble_eq_true rfl) rfl (gFit_rm (by decide) (by decide)) rfl ?_
  refine go_top (v' := 1) (gWi_t (by rw [i2l_toInt]; exact hh)) ?_
  refine go_if_ne (t := 25) (q := 14) (gDec iX10_requireKern_ok 5 rfl) (by decide) rfl (fun c11 => ?_) (fun c11 => False.elim (absurd c11 (by decide)))
  exact go_return (gDec iX10_requireKern_ok 11 rfl) rfl rfl rfl (by decide)

set_option maxHeartbeats 4000000 in
set_option maxRecDepth 100000 in
theorem ctX10_requireKern_x {κ : gK} {σ : gST} {v : Int32} (hh : ¬ (-300 ≤ v.toInt ∧ v.toInt ≤ 300)) : gCt κ mX10_requireKern 6 [.int v] σ (.inr "java/lang/IllegalArgumentException") σ 1 := by
  refine ct_of (by decide +kernel) rfl (Nat.le_of_ble_eq_true rfl) rfl ?_
  refine go_iload_n (q := 1) (gDec iX10_requireKern_ok 0 rfl) rfl rfl rfl ?_
  refine go_i2l (q := 2) (gDec iX10_requireKern_ok 1 rfl) rfl ?_
  refine go_ldc2 (q := 5) wX10_511 (gDec iX10_requireKern_ok 2 rfl) rfl ?_
  refine go_ldc2 (q := 8) wX10_513 (gDec iX10_requireKern_ok 3 rfl) rfl ?_
  refine go_callS (n2 := 0) (q := 11) kX10_59 ctX10_isWithin (gDec iX10_requireKern_ok 4 rfl) rfl rfl (Nat.le_of_ble_eq_true rfl) rfl (gFit_rm (by decide) (by decide)) rfl ?_
  refine go_top (v' := 0) (gWi_f (by rw [i2l_toInt]; exact hh)) ?_
  refine go_if_ne (t := 25) (q := 14) (gDec iX10_requireKern_ok 5 rfl) (by decide) rfl (fun c11 => False.elim (c11 rfl)) (fun c11 => ?_)
  exact go_throwW th_IllegalArgumentException (List.mem_of_getElem? (i := 16) rfl) rfl rfl (gDec iX10_requireKern_ok 6 rfl) (gDec iX10_requireKern_ok 7 rfl) (gDec iX10_requireKern_ok 8 rfl) (gDec iX10_requireKern_ok 9 rfl) (gDec iX10_requireKern_ok 10 rfl) (by decide) (by decide)

set_option maxHeartbeats 4000000 in
set_option maxRecDepth 100000 in
theorem ctX10_requireGrid {κ : gK} {σ : gST} {v m : Int32} (hh : (6 ≤ v.toInt ∧ v.toInt ≤ m.toInt)) : gCt κ mX10_requireGrid 6 [.int v, .int m] σ (.inl none) σ 0 := by
  refine ct_of (by decide +kernel) rfl (Nat.le_of_ble_eq_true rfl) rfl ?_
  refine go_iload_n (q := 1) (gDec iX10_requireGrid_ok 0 rfl) rfl rfl rfl ?_
  refine go_i2l (q := 2) (gDec iX10_requireGrid_ok 1 rfl) rfl ?_
  refine go_ldc2 (q := 5) wX10_517 (gDec iX10_requireGrid_ok 2 rfl) rfl ?_
  refine go_iload_n (q := 6) (gDec iX10_requireGrid_ok 3 rfl) rfl rfl rfl ?_
  refine go_i2l (q := 7) (gDec iX10_requireGrid_ok 4 rfl) rfl ?_
  refine go_callS (n2 := 0) (q := 10) kX10_59 ctX10_isWithin (gDec iX10_requireGrid_ok 5 rfl) rfl rfl (Nat.le_of_ble_eq_true rfl) rfl (gFit_rm (by decide) (by decide)) rfl ?_
  refine go_top (v' := 1) (gWi_t (by rw [i2l_toInt, i2l_toInt]; exact hh)) ?_
  refine go_if_ne (t := 24) (q := 13) (gDec iX10_requireGrid_ok 6 rfl) (by decide) rfl (fun c10 => ?_) (fun c10 => False.elim (absurd c10 (by decide)))
  exact go_return (gDec iX10_requireGrid_ok 12 rfl) rfl rfl rfl (by decide)

set_option maxHeartbeats 4000000 in
set_option maxRecDepth 100000 in
theorem ctX10_requireGrid_x {κ : gK} {σ : gST} {v m : Int32} (hh : ¬ (6 ≤ v.toInt ∧ v.toInt ≤ m.toInt)) : gCt κ mX10_requireGrid 6 [.int v, .int m] σ (.inr "java/lang/IllegalArgumentException") σ 1 := by
  refine ct_of (by decide +kernel) rfl (Nat.le_of_ble_eq_true rfl) rfl ?_
  refine go_iload_n (q := 1) (gDec iX10_requireGrid_ok 0 rfl) rfl rfl rfl ?_
  refine go_i2l (q := 2) (gDec iX10_requireGrid_ok 1 rfl) rfl ?_
  refine go_ldc2 (q := 5) wX10_517 (gDec iX10_requireGrid_ok 2 rfl) rfl ?_
  refine go_iload_n (q := 6) (gDec iX10_requireGrid_ok 3 rfl) rfl rfl rfl ?_
  refine go_i2l (q := 7) (gDec iX10_requireGrid_ok 4 rfl) rfl ?_
  refine go_callS (n2 := 0) (q := 10) kX10_59 ctX10_isWithin (gDec iX10_requireGrid_ok 5 rfl) rfl rfl (Nat.le_of_ble_eq_true rfl) rfl (gFit_rm (by decide) (by decide)) rfl ?_
  refine go_top (v' := 0) (gWi_f (by rw [i2l_toInt, i2l_toInt]; exact hh)) ?_
  refine go_if_ne (t := 24) (q := 13) (gDec iX10_requireGrid_ok 6 rfl) (by decide) rfl (fun c10 => False.elim (c10 rfl)) (fun c10 => ?_)
  exact go_throwW th_IllegalArgumentException (List.mem_of_getElem? (i := 22) rfl) rfl rfl (gDec iX10_requireGrid_ok 7 rfl) (gDec iX10_requireGrid_ok 8 rfl) (gDec iX10_requireGrid_ok 9 rfl) (gDec iX10_requireGrid_ok 10 rfl) (gDec iX10_requireGrid_ok 11 rfl) (by decide) (by decide)

set_option maxHeartbeats 4000000 in
set_option maxRecDepth 100000 in
theorem ctX10_requireMeasure {κ : gK} {σ : gST} {v : Int32} (hh : (1 ≤ v.toInt ∧ v.toInt ≤ 100000)) : gCt κ mX10_requireMeasure 6 [.int v] σ (.inl none) σ 0 := by
  refine ct_of (by decide +kernel) rfl (Nat.le_of_ble_eq_true rfl) rfl ?_
  refine go_iload_n (q := 1) (gDec iX10_requireMeasure_ok 0 rfl) rfl rfl rfl ?_
  refine go_i2l (q := 2) (gDec iX10_requireMeasure_ok 1 rfl) rfl ?_
  refine go_lconst (v := 1) (q := 3) (gDec iX10_requireMeasure_ok 2 rfl) (by decide) rfl ?_
  refine go_ldc2 (q := 6) wX10_521 (gDec iX10_requireMeasure_ok 3 rfl) rfl ?_
  refine go_callS (n2 := 0) (q := 9) kX10_59 ctX10_isWithin (gDec iX10_requireMeasure_ok 4 rfl) rfl rfl (Nat.le_of_ble_eq_true rfl) rfl (gFit_rm (by decide) (by decide)) rfl ?_
  refine go_top (v' := 1) (gWi_t (by rw [i2l_toInt]; exact hh)) ?_
  refine go_if_ne (t := 23) (q := 12) (gDec iX10_requireMeasure_ok 5 rfl) (by decide) rfl (fun c9 => ?_) (fun c9 => False.elim (absurd c9 (by decide)))
  exact go_return (gDec iX10_requireMeasure_ok 11 rfl) rfl rfl rfl (by decide)

set_option maxHeartbeats 4000000 in
set_option maxRecDepth 100000 in
theorem ctX10_requireMeasure_x {κ : gK} {σ : gST} {v : Int32} (hh : ¬ (1 ≤ v.toInt ∧ v.toInt ≤ 100000)) : gCt κ mX10_requireMeasure 6 [.int v] σ (.inr "java/lang/IllegalArgumentException") σ 1 := by
  refine ct_of (by decide +kernel) rfl (Nat.le_of_ble_eq_true rfl) rfl ?_
  refine go_iload_n (q := 1) (gDec iX10_requireMeasure_ok 0 rfl) rfl rfl rfl ?_
  refine go_i2l (q := 2) (gDec iX10_requireMeasure_ok 1 rfl) rfl ?_
  refine go_lconst (v := 1) (q := 3) (gDec iX10_requireMeasure_ok 2 rfl) (by decide) rfl ?_
  refine go_ldc2 (q := 6) wX10_521 (gDec iX10_requireMeasure_ok 3 rfl) rfl ?_
  refine go_callS (n2 := 0) (q := 9) kX10_59 ctX10_isWithin (gDec iX10_requireMeasure_ok 4 rfl) rfl rfl (Nat.le_of_ble_eq_true rfl) rfl (gFit_rm (by decide) (by decide)) rfl ?_
  refine go_top (v' := 0) (gWi_f (by rw [i2l_toInt]; exact hh)) ?_
  refine go_if_ne (t := 23) (q := 12) (gDec iX10_requireMeasure_ok 5 rfl) (by decide) rfl (fun c9 => False.elim (c9 rfl)) (fun c9 => ?_)
  exact go_throwW th_IllegalArgumentException (List.mem_of_getElem? (i := 30) rfl) rfl rfl (gDec iX10_requireMeasure_ok 6 rfl) (gDec iX10_requireMeasure_ok 7 rfl) (gDec iX10_requireMeasure_ok 8 rfl) (gDec iX10_requireMeasure_ok 9 rfl) (gDec iX10_requireMeasure_ok 10 rfl) (by decide) (by decide)

set_option maxHeartbeats 4000000 in
set_option maxRecDepth 100000 in
theorem ctX10_requireCoordinates {κ : gK} {σ : gST} {x y : Int64} (hh : ((-200 ≤ x.toInt ∧ x.toInt ≤ 1200) ∧ (-200 ≤ y.toInt ∧ y.toInt ≤ 1200))) : gCt κ mX10_requireCoordinates 6 [.long x, .long y] σ (.inl none) σ 0 := by
  refine ct_of (by decide +kernel) rfl (Nat.le_of_ble_eq_true rfl) rfl ?_
  refine go_lload_n (q := 1) (gDec iX10_requireCoordinates_ok 0 rfl) rfl rfl rfl ?_
  refine go_ldc2 (q := 4) wX10_193 (gDec iX10_requireCoordinates_ok 1 rfl) rfl ?_
  refine go_ldc2 (q := 7) wX10_507 (gDec iX10_requireCoordinates_ok 2 rfl) rfl ?_
  refine go_callS (n2 := 0) (q := 10) kX10_59 ctX10_isWithin (gDec iX10_requireCoordinates_ok 3 rfl) rfl rfl (Nat.le_of_ble_eq_true rfl) rfl (gFit_rm (by decide) (by decide)) rfl ?_
  refine go_top (v' := 1) (gWi_t (by exact hh.1)) ?_
  refine go_if_eq (t := 26) (q := 13) (gDec iX10_requireCoordinates_ok 4 rfl) (by decide) rfl (fun c10 => False.elim (absurd c10 (by decide))) (fun c10 => ?_)
  refine go_lload_n (q := 14) (gDec iX10_requireCoordinates_ok 5 rfl) rfl rfl rfl ?_
  refine go_ldc2 (q := 17) wX10_193 (gDec iX10_requireCoordinates_ok 6 rfl) rfl ?_
  refine go_ldc2 (q := 20) wX10_507 (gDec iX10_requireCoordinates_ok 7 rfl) rfl ?_
  refine go_callS (n2 := 0) (q := 23) kX10_59 ctX10_isWithin (gDec iX10_requireCoordinates_ok 8 rfl) rfl rfl (Nat.le_of_ble_eq_true rfl) rfl (gFit_rm (by decide) (by decide)) rfl ?_
  refine go_top (v' := 1) (gWi_t (by exact hh.2)) ?_
  refine go_if_ne (t := 37) (q := 26) (gDec iX10_requireCoordinates_ok 9 rfl) (by decide) rfl (fun c23 => ?_) (fun c23 => False.elim (absurd c23 (by decide)))
  exact go_return (gDec iX10_requireCoordinates_ok 15 rfl) rfl rfl rfl (by decide)

set_option maxHeartbeats 4000000 in
set_option maxRecDepth 100000 in
theorem ctX10_requireCoordinates_x {κ : gK} {σ : gST} {x y : Int64} (hh : ¬ ((-200 ≤ x.toInt ∧ x.toInt ≤ 1200) ∧ (-200 ≤ y.toInt ∧ y.toInt ≤ 1200))) : gCt κ mX10_requireCoordinates 6 [.long x, .long y] σ (.inr "java/lang/IllegalArgumentException") σ 1 := by
  refine ct_of (by decide +kernel) rfl (Nat.le_of_ble_eq_true rfl) rfl ?_
  by_cases h1 : -200 ≤ x.toInt ∧ x.toInt ≤ 1200
  · have h2 : ¬ (-200 ≤ y.toInt ∧ y.toInt ≤ 1200) := fun h => hh ⟨h1, h⟩
    refine go_lload_n (q := 1) (gDec iX10_requireCoordinates_ok 0 rfl) rfl rfl rfl ?_
    refine go_ldc2 (q := 4) wX10_193 (gDec iX10_requireCoordinates_ok 1 rfl) rfl ?_
    refine go_ldc2 (q := 7) wX10_507 (gDec iX10_requireCoordinates_ok 2 rfl) rfl ?_
    refine go_callS (n2 := 0) (q := 10) kX10_59 ctX10_isWithin (gDec iX10_requireCoordinates_ok 3 rfl) rfl rfl (Nat.le_of_ble_eq_true rfl) rfl (gFit_rm (by decide) (by decide)) rfl ?_
    refine go_top (v' := 1) (gWi_t (by exact h1)) ?_
    refine go_if_eq (t := 26) (q := 13) (gDec iX10_requireCoordinates_ok 4 rfl) (by decide) rfl (fun c10 => False.elim (absurd c10 (by decide))) (fun c10 => ?_)
    refine go_lload_n (q := 14) (gDec iX10_requireCoordinates_ok 5 rfl) rfl rfl rfl ?_
    refine go_ldc2 (q := 17) wX10_193 (gDec iX10_requireCoordinates_ok 6 rfl) rfl ?_
    refine go_ldc2 (q := 20) wX10_507 (gDec iX10_requireCoordinates_ok 7 rfl) rfl ?_
    refine go_callS (n2 := 0) (q := 23) kX10_59 ctX10_isWithin (gDec iX10_requireCoordinates_ok 8 rfl) rfl rfl (Nat.le_of_ble_eq_true rfl) rfl (gFit_rm (by decide) (by decide)) rfl ?_
    refine go_top (v' := 0) (gWi_f (by exact h2)) ?_
    refine go_if_ne (t := 37) (q := 26) (gDec iX10_requireCoordinates_ok 9 rfl) (by decide) rfl (fun c23 => False.elim (c23 rfl)) (fun c23 => ?_)
    exact go_throwW th_IllegalArgumentException (List.mem_of_getElem? (i := 4) rfl) rfl rfl (gDec iX10_requireCoordinates_ok 10 rfl) (gDec iX10_requireCoordinates_ok 11 rfl) (gDec iX10_requireCoordinates_ok 12 rfl) (gDec iX10_requireCoordinates_ok 13 rfl) (gDec iX10_requireCoordinates_ok 14 rfl) (by decide) (by decide)
  · skip
    refine go_lload_n (q := 1) (gDec iX10_requireCoordinates_ok 0 rfl) rfl rfl rfl ?_
    refine go_ldc2 (q := 4) wX10_193 (gDec iX10_requireCoordinates_ok 1 rfl) rfl ?_
    refine go_ldc2 (q := 7) wX10_507 (gDec iX10_requireCoordinates_ok 2 rfl) rfl ?_
    refine go_callS (n2 := 0) (q := 10) kX10_59 ctX10_isWithin (gDec iX10_requireCoordinates_ok 3 rfl) rfl rfl (Nat.le_of_ble_eq_true rfl) rfl (gFit_rm (by decide) (by decide)) rfl ?_
    refine go_top (v' := 0) (gWi_f (by exact h1)) ?_
    refine go_if_eq (t := 26) (q := 13) (gDec iX10_requireCoordinates_ok 4 rfl) (by decide) rfl (fun c10 => ?_) (fun c10 => False.elim (c10 rfl))
    exact go_throwW th_IllegalArgumentException (List.mem_of_getElem? (i := 4) rfl) rfl rfl (gDec iX10_requireCoordinates_ok 10 rfl) (gDec iX10_requireCoordinates_ok 11 rfl) (gDec iX10_requireCoordinates_ok 12 rfl) (gDec iX10_requireCoordinates_ok 13 rfl) (gDec iX10_requireCoordinates_ok 14 rfl) (by decide) (by decide)
