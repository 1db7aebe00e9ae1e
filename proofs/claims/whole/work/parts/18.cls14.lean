def iX2_faultIn : List (Nat × Instr × Nat) := [(0, .aload_n 0, 1), (1, .iconst 0, 1), (2, .putfield 26, 3), (5, .aload_n 0, 1), (6, .iconst 0, 1), (7, .putfield 33, 3), (10, .aload_n 0, 1), (11, .iconst 0, 1), (12, .putfield 36, 3), (15, .iconst 0, 1), (16, .istore_n 2, 1), (17, .iload_n 2, 1), (18, .aload_n 1, 1), (19, .invokevirtual 55, 3), (22, .if_icmp .ge 23, 3), (25, .aload_n 0, 1), (26, .aload_n 1, 1), (27, .iload_n 2, 1), (28, .invokevirtual 61, 3), (31, .invokevirtual 65, 3), (34, .ifCond .ne 5, 3), (37, .iload_n 2, 1), (38, .ireturn, 1), (39, .iinc 2 1, 3), (42, .goto (-25), 3), (45, .aload_n 0, 1), (46, .getfield 26, 3), (49, .iconst 5, 1), (50, .if_icmp .ne 7, 3), (53, .iconst (-1), 1), (54, .goto 7, 3), (57, .aload_n 1, 1), (58, .invokevirtual 55, 3), (61, .ireturn, 1)]
theorem iX2_faultIn_ok : gDecs mX2_faultIn iX2_faultIn := by decide +kernel
def iX2_code : List (Nat × Instr × Nat) := [(0, .aload_n 0, 1), (1, .getfield 30, 3), (4, .ireturn, 1)]
theorem iX2_code_ok : gDecs mX2_code iX2_code := by decide +kernel
def iX2_fitsIntoGlyph : List (Nat × Instr × Nat) := [(0, .iconst 0, 1), (1, .istore_n 1, 1), (2, .iload_n 1, 1), (3, .aload_n 0, 1), (4, .getfield 36, 3), (7, .if_icmp .ge 53, 3), (10, .aload_n 0, 1), (11, .getfield 14, 3), (14, .iload_n 1, 1), (15, .invokevirtual 69, 3), (18, .i2l, 1), (19, .ldc2_w 72, 3), (22, .ldc2_w 74, 3), (25, .invokestatic 76, 3), (28, .ifCond .eq 24, 3), (31, .aload_n 0, 1), (32, .getfield 20, 3), (35, .iload_n 1, 1), (36, .invokevirtual 69, 3), (39, .i2l, 1), (40, .ldc2_w 72, 3), (43, .ldc2_w 74, 3), (46, .invokestatic 76, 3), (49, .ifCond .ne 5, 3), (52, .iconst 0, 1), (53, .ireturn, 1), (54, .iinc 1 1, 3), (57, .goto (-55), 3), (60, .iconst 0, 1), (61, .istore_n 1, 1), (62, .iload_n 1, 1), (63, .aload_n 0, 1), (64, .getfield 33, 3), (67, .if_icmp .ge 24, 3), (70, .aload_n 0, 1), (71, .getfield 23, 3), (74, .iload_n 1, 1), (75, .invokevirtual 69, 3), (78, .bipush 12, 2), (80, .if_icmp .le 5, 3), (83, .iconst 0, 1), (84, .ireturn, 1), (85, .iinc 1 1, 3), (88, .goto (-26), 3), (91, .aload_n 0, 1), (92, .getfield 33, 3), (95, .iconst 3, 1), (96, .if_icmp .gt 7, 3), (99, .iconst 1, 1), (100, .goto 4, 3), (103, .iconst 0, 1), (104, .ireturn, 1)]
theorem iX2_fitsIntoGlyph_ok : gDecs mX2_fitsIntoGlyph iX2_fitsIntoGlyph := by decide +kernel
def iX2_drawInto : List (Nat × Instr × Nat) := [(0, .aload_n 1, 1), (1, .iload_n 2, 1), (2, .invokevirtual 80, 3), (5, .iconst 0, 1), (6, .istore_n 3, 1), (7, .iconst 0, 1), (8, .istore 4, 2), (10, .iload 4, 2), (12, .aload_n 0, 1), (13, .getfield 33, 3), (16, .if_icmp .ge 73, 3), (19, .aload_n 1, 1), (20, .iload_n 2, 1), (21, .invokevirtual 86, 3), (24, .istore 5, 2), (26, .iload_n 3, 1), (27, .aload_n 0, 1), (28, .getfield 23, 3), (31, .iload 4, 2), (33, .invokevirtual 69, 3), (36, .iadd, 1), (37, .istore 6, 2), (39, .iload_n 3, 1), (40, .istore 7, 2), (42, .iload 7, 2), (44, .iload 6, 2), (46, .if_icmp .ge 34, 3), (49, .aload_n 1, 1), (50, .iload_n 2, 1), (51, .iload 5, 2), (53, .aload_n 0, 1), (54, .getfield 14, 3), (57, .iload 7, 2), (59, .invokevirtual 69, 3), (62, .aload_n 0, 1), (63, .getfield 20, 3), (66, .iload 7, 2), (68, .invokevirtual 69, 3), (71, .invokevirtual 89, 3), (74, .iinc 7 1, 3), (77, .goto (-35), 3), (80, .iload 6, 2), (82, .istore_n 3, 1), (83, .iinc 4 1, 3), (86, .goto (-76), 3), (89, .return_, 1)]
theorem iX2_drawInto_ok : gDecs mX2_drawInto iX2_drawInto := by decide +kernel
def iX2_accepts : List (Nat × Instr × Nat) := [(0, .aload_n 0, 1), (1, .getfield 26, 3), (4, .tableswitch 92 0 4 #[36, 92, 42, 64, 70], 36), (40, .aload_n 0, 1), (41, .iload_n 1, 1), (42, .invokevirtual 93, 3), (45, .ireturn, 1), (46, .aload_n 0, 1), (47, .iload_n 1, 1), (48, .invokevirtual 96, 3), (51, .ifCond .ne 11, 3), (54, .aload_n 0, 1), (55, .iload_n 1, 1), (56, .invokevirtual 99, 3), (59, .ifCond .eq 7, 3), (62, .iconst 1, 1), (63, .goto 4, 3), (66, .iconst 0, 1), (67, .ireturn, 1), (68, .aload_n 0, 1), (69, .iload_n 1, 1), (70, .invokevirtual 99, 3), (73, .ireturn, 1), (74, .aload_n 0, 1), (75, .iload_n 1, 1), (76, .invokevirtual 102, 3), (79, .ifCond .ne 11, 3), (82, .aload_n 0, 1), (83, .iload_n 1, 1), (84, .invokevirtual 105, 3), (87, .ifCond .eq 7, 3), (90, .iconst 1, 1), (91, .goto 4, 3), (94, .iconst 0, 1), (95, .ireturn, 1), (96, .aload_n 0, 1), (97, .iload_n 1, 1), (98, .invokevirtual 108, 3), (101, .ireturn, 1)]
theorem iX2_accepts_ok : gDecs mX2_accepts iX2_accepts := by decide +kernel
def iX2_acceptsCode : List (Nat × Instr × Nat) := [(0, .aload_n 0, 1), (1, .iload_n 1, 1), (2, .putfield 30, 3), (5, .aload_n 0, 1), (6, .iconst 1, 1), (7, .putfield 26, 3), (10, .iload_n 1, 1), (11, .i2l, 1), (12, .ldc2_w 111, 3), (15, .ldc2_w 113, 3), (18, .invokestatic 76, 3), (21, .ireturn, 1)]
theorem iX2_acceptsCode_ok : gDecs mX2_acceptsCode iX2_acceptsCode := by decide +kernel
def iX2_acceptsOpening : List (Nat × Instr × Nat) := [(0, .aload_n 0, 1), (1, .iconst 0, 1), (2, .putfield 39, 3), (5, .aload_n 0, 1), (6, .iconst 0, 1), (7, .invokevirtual 115, 3), (10, .iload_n 1, 1), (11, .bipush 40, 2), (13, .if_icmp .ne 7, 3), (16, .iconst 1, 1), (17, .goto 4, 3), (20, .iconst 0, 1), (21, .ireturn, 1)]
theorem iX2_acceptsOpening_ok : gDecs mX2_acceptsOpening iX2_acceptsOpening := by decide +kernel
def iX2_beginCoordinate : List (Nat × Instr × Nat) := [(0, .aload_n 0, 1), (1, .iconst 2, 1), (2, .putfield 26, 3), (5, .aload_n 0, 1), (6, .iload_n 1, 1), (7, .putfield 42, 3), (10, .aload_n 0, 1), (11, .iconst 0, 1), (12, .putfield 46, 3), (15, .return_, 1)]
theorem iX2_beginCoordinate_ok : gDecs mX2_beginCoordinate iX2_beginCoordinate := by decide +kernel
def iX2_acceptsMinus : List (Nat × Instr × Nat) := [(0, .iload_n 1, 1), (1, .bipush 45, 2), (3, .if_icmp .eq 5, 3), (6, .iconst 0, 1), (7, .ireturn, 1), (8, .aload_n 0, 1), (9, .iconst 1, 1), (10, .putfield 46, 3), (13, .aload_n 0, 1), (14, .iconst 3, 1), (15, .putfield 26, 3), (18, .iconst 1, 1), (19, .ireturn, 1)]
theorem iX2_acceptsMinus_ok : gDecs mX2_acceptsMinus iX2_acceptsMinus := by decide +kernel
def iX2_acceptsFirstDigit : List (Nat × Instr × Nat) := [(0, .aload_n 0, 1), (1, .iconst 1, 1), (2, .putfield 49, 3), (5, .aload_n 0, 1), (6, .iload_n 1, 1), (7, .bipush 48, 2), (9, .isub, 1), (10, .putfield 52, 3), (13, .aload_n 0, 1), (14, .iconst 4, 1), (15, .putfield 26, 3), (18, .iload_n 1, 1), (19, .invokestatic 119, 3), (22, .ireturn, 1)]
theorem iX2_acceptsFirstDigit_ok : gDecs mX2_acceptsFirstDigit iX2_acceptsFirstDigit := by decide +kernel
def iX2_acceptsNextDigit : List (Nat × Instr × Nat) := [(0, .iload_n 1, 1), (1, .invokestatic 119, 3), (4, .ifCond .eq 18, 3), (7, .aload_n 0, 1), (8, .getfield 52, 3), (11, .ifCond .eq 11, 3), (14, .aload_n 0, 1), (15, .getfield 49, 3), (18, .iconst 4, 1), (19, .if_icmp .lt 5, 3), (22, .iconst 0, 1), (23, .ireturn, 1), (24, .aload_n 0, 1), (25, .dup, 1), (26, .getfield 49, 3), (29, .iconst 1, 1), (30, .iadd, 1), (31, .putfield 49, 3), (34, .aload_n 0, 1), (35, .aload_n 0, 1), (36, .getfield 52, 3), (39, .bipush 10, 2), (41, .imul, 1), (42, .iload_n 1, 1), (43, .bipush 48, 2), (45, .isub, 1), (46, .iadd, 1), (47, .putfield 52, 3), (50, .iconst 1, 1), (51, .ireturn, 1)]
theorem iX2_acceptsNextDigit_ok : gDecs mX2_acceptsNextDigit iX2_acceptsNextDigit := by decide +kernel
def iX2_acceptsEndOfNumber : List (Nat × Instr × Nat) := [(0, .aload_n 0, 1), (1, .getfield 42, 3), (4, .ifCond .eq 11, 3), (7, .aload_n 0, 1), (8, .iload_n 1, 1), (9, .invokevirtual 122, 3), (12, .goto 8, 3), (15, .aload_n 0, 1), (16, .iload_n 1, 1), (17, .invokevirtual 125, 3), (20, .ireturn, 1)]
theorem iX2_acceptsEndOfNumber_ok : gDecs mX2_acceptsEndOfNumber iX2_acceptsEndOfNumber := by decide +kernel
def iX2_acceptsComma : List (Nat × Instr × Nat) := [(0, .aload_n 0, 1), (1, .getfield 14, 3), (4, .aload_n 0, 1), (5, .getfield 36, 3), (8, .aload_n 0, 1), (9, .invokevirtual 128, 3), (12, .invokevirtual 131, 3), (15, .aload_n 0, 1), (16, .iconst 1, 1), (17, .invokevirtual 115, 3), (20, .iload_n 1, 1), (21, .bipush 44, 2), (23, .if_icmp .ne 7, 3), (26, .iconst 1, 1), (27, .goto 4, 3), (30, .iconst 0, 1), (31, .ireturn, 1)]
theorem iX2_acceptsComma_ok : gDecs mX2_acceptsComma iX2_acceptsComma := by decide +kernel
def iX2_acceptsEndOfPoint : List (Nat × Instr × Nat) := [(0, .aload_n 0, 1), (1, .getfield 20, 3), (4, .aload_n 0, 1), (5, .getfield 36, 3), (8, .aload_n 0, 1), (9, .invokevirtual 128, 3), (12, .invokevirtual 131, 3), (15, .aload_n 0, 1), (16, .dup, 1), (17, .getfield 36, 3), (20, .iconst 1, 1), (21, .iadd, 1), (22, .putfield 36, 3), (25, .aload_n 0, 1), (26, .dup, 1), (27, .getfield 39, 3), (30, .iconst 1, 1), (31, .iadd, 1), (32, .putfield 39, 3), (35, .iload_n 1, 1), (36, .bipush 41, 2), (38, .if_icmp .ne 43, 3), (41, .aload_n 0, 1), (42, .getfield 39, 3), (45, .iconst 3, 1), (46, .if_icmp .lt 35, 3), (49, .aload_n 0, 1), (50, .getfield 23, 3), (53, .aload_n 0, 1), (54, .getfield 33, 3), (57, .aload_n 0, 1), (58, .getfield 39, 3), (61, .invokevirtual 131, 3), (64, .aload_n 0, 1), (65, .dup, 1), (66, .getfield 33, 3), (69, .iconst 1, 1), (70, .iadd, 1), (71, .putfield 33, 3), (74, .aload_n 0, 1), (75, .iconst 5, 1), (76, .putfield 26, 3), (79, .iconst 1, 1), (80, .ireturn, 1), (81, .aload_n 0, 1), (82, .iconst 0, 1), (83, .invokevirtual 115, 3), (86, .iload_n 1, 1), (87, .bipush 32, 2), (89, .if_icmp .ne 7, 3), (92, .iconst 1, 1), (93, .goto 4, 3), (96, .iconst 0, 1), (97, .ireturn, 1)]
theorem iX2_acceptsEndOfPoint_ok : gDecs mX2_acceptsEndOfPoint iX2_acceptsEndOfPoint := by decide +kernel
def iX2_signedValue : List (Nat × Instr × Nat) := [(0, .aload_n 0, 1), (1, .getfield 46, 3), (4, .ifCond .eq 11, 3), (7, .aload_n 0, 1), (8, .getfield 52, 3), (11, .ineg, 1), (12, .goto 7, 3), (15, .aload_n 0, 1), (16, .getfield 52, 3), (19, .ireturn, 1)]
theorem iX2_signedValue_ok : gDecs mX2_signedValue iX2_signedValue := by decide +kernel
def iX2_isDigit : List (Nat × Instr × Nat) := [(0, .iload_n 0, 1), (1, .i2l, 1), (2, .ldc2_w 134, 3), (5, .ldc2_w 136, 3), (8, .invokestatic 76, 3), (11, .ireturn, 1)]
theorem iX2_isDigit_ok : gDecs mX2_isDigit iX2_isDigit := by decide +kernel

/-! ===== the text of a glyph ===== -/
def gBc (σ : gST) (b : Int32) : gST := gPut (gPut (gPut σ 356 3 2) 356 8 b) 356 9 0
def gSv (σ : gST) : Int32 := if σ.1 356 9 = 0 then σ.1 356 11 else -(σ.1 356 11)
def gA0 (σ : gST) (c : Int32) : Int32 × gST := (gWi c.toInt 33 126, gPut (gPut σ 356 4 c) 356 3 1)
def gA1 (σ : gST) (c : Int32) : Int32 × gST := (if c = 40 then 1 else 0, gBc (gPut σ 356 7 0) 0)
def gAm (σ : gST) (c : Int32) : Int32 × gST := if c = 45 then (1, gPut (gPut σ 356 9 1) 356 3 3) else (0, σ)
def gAf (σ : gST) (c : Int32) : Int32 × gST := (gWi c.toInt 48 57, gPut (gPut (gPut σ 356 10 1) 356 11 (c - 48)) 356 3 4)
def gAn (σ : gST) (c : Int32) : Int32 × gST :=
  if gWi c.toInt 48 57 = 0 then (0, σ) else if σ.1 356 11 = 0 then (0, σ) else if σ.1 356 10 < 4 then (1, gPut (gPut σ 356 10 (σ.1 356 10 + 1)) 356 11 (σ.1 356 11 * 10 + (c - 48))) else (0, σ)
def gAk (σ : gST) (c : Int32) : Int32 × gST := (if c = 44 then 1 else 0, gBc (gPut σ 358 (nA (σ.1 356 6)) (gSv σ)) 1)
def gApW (σ : gST) : gST := gPut (gPut (gPut σ 360 (nA (σ.1 356 6)) (gSv σ)) 356 6 (σ.1 356 6 + 1)) 356 7 (σ.1 356 7 + 1)
def gAp (σ : gST) (c : Int32) : Int32 × gST :=
  if c = 41 ∧ ¬ σ.1 356 7 + 1 < 3 then (1, gPut (gPut (gPut (gApW σ) 362 (nA (σ.1 356 5)) (σ.1 356 7 + 1)) 356 5 (σ.1 356 5 + 1)) 356 3 5)
  else (if c = 32 then 1 else 0, gBc (gApW σ) 0)
def gAe (σ : gST) (c : Int32) : Int32 × gST := if σ.1 356 8 = 0 then gAk σ c else gAp σ c
def gAcc (σ : gST) (c : Int32) : Int32 × gST := match nA (σ.1 356 3) with
  | 0 => gA0 σ c
  | 2 => if (gAm σ c).1 = 0 then (if (gAf (gAm σ c).2 c).1 = 0 then 0 else 1, (gAf (gAm σ c).2 c).2) else (1, (gAm σ c).2)
  | 3 => gAf σ c
  | 4 => if (gAn σ c).1 = 0 then (if (gAe (gAn σ c).2 c).1 = 0 then 0 else 1, (gAe (gAn σ c).2 c).2) else (1, (gAn σ c).2)
  | _ => gA1 σ c

set_option maxHeartbeats 4000000 in
set_option maxRecDepth 100000 in
theorem ctX2_isDigit {κ : gK} {σ : gST} {c : Int32} : gCt κ mX2_isDigit 1 [.int c] σ (.inl (some (.int (gWi c.toInt 48 57)))) σ 0 := by
  refine ct_of (by decide +kernel) rfl (Nat.le_of_ble_eq_true rfl) rfl ?_
  refine go_iload_n (q := 1) (gDec iX2_isDigit_ok 0 rfl) rfl rfl rfl ?_
  refine go_i2l (q := 2) (gDec iX2_isDigit_ok 1 rfl) rfl ?_
  refine go_ldc2 (q := 5) wX2_134 (gDec iX2_isDigit_ok 2 rfl) rfl ?_
  refine go_ldc2 (q := 8) wX2_136 (gDec iX2_isDigit_ok 3 rfl) rfl ?_
  refine go_callN (n2 := 0) (q := 11) kX2_76 ctX10_isWithin (gDec iX2_isDigit_ok 4 rfl) rfl rfl (Nat.le_of_ble_eq_true rfl) rfl (gFit_rm (by decide) (by decide)) rfl ?_
  refine go_top (v' := gWi c.toInt (48) 57) (by rw [i2l_toInt]; rfl) ?_
  exact go_ireturn (gDec iX2_isDigit_ok 5 rfl) rfl (gWi_nz _ _ _) rfl rfl (by decide)

set_option maxHeartbeats 4000000 in
set_option maxRecDepth 100000 in
theorem ctX2_acceptsCode {κ : gK} {σ : gST} {c : Int32} : gCt κ mX2_acceptsCode 1 [.ref (κ.2.1 + 356), .int c] σ (.inl (some (.int (gA0 σ c).1))) (gA0 σ c).2 0 := by
  refine ct_of (by decide +kernel) rfl (Nat.le_of_ble_eq_true rfl) rfl ?_
  refine go_aload_n (q := 1) (gDec iX2_acceptsCode_ok 0 rfl) rfl rfl rfl ?_
  refine go_iload_n (q := 2) (gDec iX2_acceptsCode_ok 1 rfl) rfl rfl rfl ?_
  refine go_puti (q := 5) fX2_30 gft2 (gDec iX2_acceptsCode_ok 2 rfl) rfl (by decide) rfl rfl rfl rfl ?_
  refine go_aload_n (q := 6) (gDec iX2_acceptsCode_ok 3 rfl) rfl rfl rfl ?_
  refine go_iconst (v := 1) (q := 7) (gDec iX2_acceptsCode_ok 4 rfl) (by decide) rfl ?_
  refine go_puti (q := 10) fX2_26 gft2 (gDec iX2_acceptsCode_ok 5 rfl) rfl (by decide) rfl rfl rfl rfl ?_
  refine go_iload_n (q := 11) (gDec iX2_acceptsCode_ok 6 rfl) rfl rfl rfl ?_
  refine go_i2l (q := 12) (gDec iX2_acceptsCode_ok 7 rfl) rfl ?_
  refine go_ldc2 (q := 15) wX2_111 (gDec iX2_acceptsCode_ok 8 rfl) rfl ?_
  refine go_ldc2 (q := 18) wX2_113 (gDec iX2_acceptsCode_ok 9 rfl) rfl ?_
  refine go_callN (n2 := 0) (q := 21) kX2_76 ctX10_isWithin (gDec iX2_acceptsCode_ok 10 rfl) rfl rfl (Nat.le_of_ble_eq_true rfl) rfl (gFit_rm (by decide) (by decide)) rfl ?_
  refine go_top (v' := gWi c.toInt (33) 126) (by rw [i2l_toInt]; rfl) ?_
  exact go_ireturn (gDec iX2_acceptsCode_ok 11 rfl) rfl (gWi_nz _ _ _) rfl rfl (by decide)

set_option maxHeartbeats 4000000 in
set_option maxRecDepth 100000 in
theorem ctX2_beginCoordinate0 {κ : gK} {σ : gST}  : gCt κ mX2_beginCoordinate 0 [.ref (κ.2.1 + 356), .int 0] σ (.inl none) (gBc σ 0) 0 := by
  refine ct_of (by decide +kernel) rfl (Nat.le_of_ble_eq_true rfl) rfl ?_
  refine go_aload_n (q := 1) (gDec iX2_beginCoordinate_ok 0 rfl) rfl rfl rfl ?_
  refine go_iconst (v := 2) (q := 2) (gDec iX2_beginCoordinate_ok 1 rfl) (by decide) rfl ?_
  refine go_puti (q := 5) fX2_26 gft2 (gDec iX2_beginCoordinate_ok 2 rfl) rfl (by decide) rfl rfl rfl rfl ?_
  refine go_aload_n (q := 6) (gDec iX2_beginCoordinate_ok 3 rfl) rfl rfl rfl ?_
  refine go_iload_n (q := 7) (gDec iX2_beginCoordinate_ok 4 rfl) rfl rfl rfl ?_
  refine go_puti (q := 10) fX2_42 gft2 (gDec iX2_beginCoordinate_ok 5 rfl) rfl (by decide) rfl rfl rfl rfl ?_
  refine go_aload_n (q := 11) (gDec iX2_beginCoordinate_ok 6 rfl) rfl rfl rfl ?_
  refine go_iconst (v := 0) (q := 12) (gDec iX2_beginCoordinate_ok 7 rfl) (by decide) rfl ?_
  refine go_puti (q := 15) fX2_46 gft2 (gDec iX2_beginCoordinate_ok 8 rfl) rfl (by decide) rfl rfl rfl rfl ?_
  exact go_return (gDec iX2_beginCoordinate_ok 9 rfl) rfl rfl rfl (by decide)

set_option maxHeartbeats 4000000 in
set_option maxRecDepth 100000 in
theorem ctX2_beginCoordinate1 {κ : gK} {σ : gST}  : gCt κ mX2_beginCoordinate 0 [.ref (κ.2.1 + 356), .int 1] σ (.inl none) (gBc σ 1) 0 := by
  refine ct_of (by decide +kernel) rfl (Nat.le_of_ble_eq_true rfl) rfl ?_
  refine go_aload_n (q := 1) (gDec iX2_beginCoordinate_ok 0 rfl) rfl rfl rfl ?_
  refine go_iconst (v := 2) (q := 2) (gDec iX2_beginCoordinate_ok 1 rfl) (by decide) rfl ?_
  refine go_puti (q := 5) fX2_26 gft2 (gDec iX2_beginCoordinate_ok 2 rfl) rfl (by decide) rfl rfl rfl rfl ?_
  refine go_aload_n (q := 6) (gDec iX2_beginCoordinate_ok 3 rfl) rfl rfl rfl ?_
  refine go_iload_n (q := 7) (gDec iX2_beginCoordinate_ok 4 rfl) rfl rfl rfl ?_
  refine go_puti (q := 10) fX2_42 gft2 (gDec iX2_beginCoordinate_ok 5 rfl) rfl (by decide) rfl rfl rfl rfl ?_
  refine go_aload_n (q := 11) (gDec iX2_beginCoordinate_ok 6 rfl) rfl rfl rfl ?_
  refine go_iconst (v := 0) (q := 12) (gDec iX2_beginCoordinate_ok 7 rfl) (by decide) rfl ?_
  refine go_puti (q := 15) fX2_46 gft2 (gDec iX2_beginCoordinate_ok 8 rfl) rfl (by decide) rfl rfl rfl rfl ?_
  exact go_return (gDec iX2_beginCoordinate_ok 9 rfl) rfl rfl rfl (by decide)

set_option maxHeartbeats 4000000 in
set_option maxRecDepth 100000 in
theorem ctX2_acceptsOpening {κ : gK} {σ : gST} {c : Int32} : gCt κ mX2_acceptsOpening 1 [.ref (κ.2.1 + 356), .int c] σ (.inl (some (.int (gA1 σ c).1))) (gA1 σ c).2 0 := by
  refine ct_of (by decide +kernel) rfl (Nat.le_of_ble_eq_true rfl) rfl ?_
  refine go_aload_n (q := 1) (gDec iX2_acceptsOpening_ok 0 rfl) rfl rfl rfl ?_
  refine go_iconst (v := 0) (q := 2) (gDec iX2_acceptsOpening_ok 1 rfl) (by decide) rfl ?_
  refine go_puti (q := 5) fX2_39 gft2 (gDec iX2_acceptsOpening_ok 2 rfl) rfl (by decide) rfl rfl rfl rfl ?_
  refine go_aload_n (q := 6) (gDec iX2_acceptsOpening_ok 3 rfl) rfl rfl rfl ?_
  refine go_iconst (v := 0) (q := 7) (gDec iX2_acceptsOpening_ok 4 rfl) (by decide) rfl ?_
  refine go_callV (n2 := 0) (q := 10) kX2_115 ctX2_beginCoordinate0 (gDec iX2_acceptsOpening_ok 5 rfl) rfl rfl (by decide) rfl rfl rfl (Nat.le_of_ble_eq_true rfl) rfl (gFit_rm (by decide) (by decide)) rfl ?_
  refine go_iload_n (q := 11) (gDec iX2_acceptsOpening_ok 6 rfl) rfl rfl rfl ?_
  refine go_bipush (v := 40) (q := 13) (gDec iX2_acceptsOpening_ok 7 rfl) (by decide) rfl ?_
  refine go_icmp_ne (t := 20) (q := 16) (gDec iX2_acceptsOpening_ok 8 rfl) (by decide) rfl (fun c13 => ?_) (fun c13 => ?_)
  · refine go_iconst (v := 0) (q := 21) (gDec iX2_acceptsOpening_ok 11 rfl) (by decide) rfl ?_
    exact go_ireturn (gDec iX2_acceptsOpening_ok 12 rfl) rfl rfl (by unfold gA1; first | rw [if_pos (Classical.not_not.mp (fun h9 => absurd c13 h9))] | rw [if_neg c13]) rfl (by decide)
  · refine go_iconst (v := 1) (q := 17) (gDec iX2_acceptsOpening_ok 9 rfl) (by decide) rfl ?_
    refine go_goto (t := 21) (gDec iX2_acceptsOpening_ok 10 rfl) (by decide) ?_
    exact go_ireturn (gDec iX2_acceptsOpening_ok 12 rfl) rfl rfl (by unfold gA1; first | rw [if_pos (Classical.not_not.mp (fun h9 => absurd c13 h9))] | rw [if_neg c13]) rfl (by decide)

set_option maxHeartbeats 4000000 in
set_option maxRecDepth 100000 in
theorem ctX2_acceptsMinus {κ : gK} {σ : gST} {c : Int32} : gCt κ mX2_acceptsMinus 0 [.ref (κ.2.1 + 356), .int c] σ (.inl (some (.int (gAm σ c).1))) (gAm σ c).2 0 := by
  refine ct_of (by decide +kernel) rfl (Nat.le_of_ble_eq_true rfl) rfl ?_
  refine go_iload_n (q := 1) (gDec iX2_acceptsMinus_ok 0 rfl) rfl rfl rfl ?_
  refine go_bipush (v := 45) (q := 3) (gDec iX2_acceptsMinus_ok 1 rfl) (by decide) rfl ?_
  refine go_icmp_eq (t := 8) (q := 6) (gDec iX2_acceptsMinus_ok 2 rfl) (by decide) rfl (fun c3 => ?_) (fun c3 => ?_)
  · refine go_aload_n (q := 9) (gDec iX2_acceptsMinus_ok 5 rfl) rfl rfl rfl ?_
    refine go_iconst (v := 1) (q := 10) (gDec iX2_acceptsMinus_ok 6 rfl) (by decide) rfl ?_
    refine go_puti (q := 13) fX2_46 gft2 (gDec iX2_acceptsMinus_ok 7 rfl) rfl (by decide) rfl rfl rfl rfl ?_
    refine go_aload_n (q := 14) (gDec iX2_acceptsMinus_ok 8 rfl) rfl rfl rfl ?_
    refine go_iconst (v := 3) (q := 15) (gDec iX2_acceptsMinus_ok 9 rfl) (by decide) rfl ?_
    refine go_puti (q := 18) fX2_26 gft2 (gDec iX2_acceptsMinus_ok 10 rfl) rfl (by decide) rfl rfl rfl rfl ?_
    refine go_iconst (v := 1) (q := 19) (gDec iX2_acceptsMinus_ok 11 rfl) (by decide) rfl ?_
    exact go_ireturn (gDec iX2_acceptsMinus_ok 12 rfl) rfl rfl (by unfold gAm; rw [if_pos c3]) (by unfold gAm; rw [if_pos c3]) (by decide)
  · refine go_iconst (v := 0) (q := 7) (gDec iX2_acceptsMinus_ok 3 rfl) (by decide) rfl ?_
    exact go_ireturn (gDec iX2_acceptsMinus_ok 4 rfl) rfl rfl (by unfold gAm; rw [if_neg c3]) (by unfold gAm; rw [if_neg c3]) (by decide)

set_option maxHeartbeats 4000000 in
set_option maxRecDepth 100000 in
theorem ctX2_acceptsFirstDigit {κ : gK} {σ : gST} {c : Int32} : gCt κ mX2_acceptsFirstDigit 2 [.ref (κ.2.1 + 356), .int c] σ (.inl (some (.int (gAf σ c).1))) (gAf σ c).2 0 := by
  refine ct_of (by decide +kernel) rfl (Nat.le_of_ble_eq_true rfl) rfl ?_
  refine go_aload_n (q := 1) (gDec iX2_acceptsFirstDigit_ok 0 rfl) rfl rfl rfl ?_
  refine go_iconst (v := 1) (q := 2) (gDec iX2_acceptsFirstDigit_ok 1 rfl) (by decide) rfl ?_
  refine go_puti (q := 5) fX2_49 gft2 (gDec iX2_acceptsFirstDigit_ok 2 rfl) rfl (by decide) rfl rfl rfl rfl ?_
  refine go_aload_n (q := 6) (gDec iX2_acceptsFirstDigit_ok 3 rfl) rfl rfl rfl ?_
  refine go_iload_n (q := 7) (gDec iX2_acceptsFirstDigit_ok 4 rfl) rfl rfl rfl ?_
  refine go_bipush (v := 48) (q := 9) (gDec iX2_acceptsFirstDigit_ok 5 rfl) (by decide) rfl ?_
  refine go_isub (q := 10) (gDec iX2_acceptsFirstDigit_ok 6 rfl) rfl ?_
  refine go_puti (q := 13) fX2_52 gft2 (gDec iX2_acceptsFirstDigit_ok 7 rfl) rfl (by decide) rfl rfl rfl rfl ?_
  refine go_aload_n (q := 14) (gDec iX2_acceptsFirstDigit_ok 8 rfl) rfl rfl rfl ?_
  refine go_iconst (v := 4) (q := 15) (gDec iX2_acceptsFirstDigit_ok 9 rfl) (by decide) rfl ?_
  refine go_puti (q := 18) fX2_26 gft2 (gDec iX2_acceptsFirstDigit_ok 10 rfl) rfl (by decide) rfl rfl rfl rfl ?_
  refine go_iload_n (q := 19) (gDec iX2_acceptsFirstDigit_ok 11 rfl) rfl rfl rfl ?_
  refine go_callS (n2 := 0) (q := 22) kX2_119 ctX2_isDigit (gDec iX2_acceptsFirstDigit_ok 12 rfl) rfl rfl (Nat.le_of_ble_eq_true rfl) rfl (gFit_rm (by decide) (by decide)) rfl ?_
  exact go_ireturn (gDec iX2_acceptsFirstDigit_ok 13 rfl) rfl (gWi_nz _ _ _) rfl rfl (by decide)

set_option maxHeartbeats 4000000 in
set_option maxRecDepth 100000 in
theorem ctX2_acceptsNextDigit {κ : gK} {σ : gST} {c : Int32} : gCt κ mX2_acceptsNextDigit 2 [.ref (κ.2.1 + 356), .int c] σ (.inl (some (.int (gAn σ c).1))) (gAn σ c).2 0 := by
  refine ct_of (by decide +kernel) rfl (Nat.le_of_ble_eq_true rfl) rfl ?_
  refine go_iload_n (q := 1) (gDec iX2_acceptsNextDigit_ok 0 rfl) rfl rfl rfl ?_
  refine go_callS (n2 := 0) (q := 4) kX2_119 ctX2_isDigit (gDec iX2_acceptsNextDigit_ok 1 rfl) rfl rfl (Nat.le_of_ble_eq_true rfl) rfl (gFit_rm (by decide) (by decide)) rfl ?_
  refine go_if_eq (t := 22) (q := 7) (gDec iX2_acceptsNextDigit_ok 2 rfl) (by decide) rfl (fun c4 => ?_) (fun c4 => ?_)
  · refine go_iconst (v := 0) (q := 23) (gDec iX2_acceptsNextDigit_ok 10 rfl) (by decide) rfl ?_
    exact go_ireturn (gDec iX2_acceptsNextDigit_ok 11 rfl) rfl rfl (by unfold gAn; first | rw [if_pos c4] | rw [if_neg c4, if_pos c11] | rw [if_neg c4, if_neg c11, if_neg c19]) (by unfold gAn; first | rw [if_pos c4] | rw [if_neg c4, if_pos c11] | rw [if_neg c4, if_neg c11, if_neg c19]) (by decide)
  · refine go_aload_n (q := 8) (gDec iX2_acceptsNextDigit_ok 3 rfl) rfl rfl rfl ?_
    refine go_geti (q := 11) fX2_52 (gDec iX2_acceptsNextDigit_ok 4 rfl) rfl (by decide) rfl ?_
    refine go_if_eq (t := 22) (q := 14) (gDec iX2_acceptsNextDigit_ok 5 rfl) (by decide) rfl (fun c11 => ?_) (fun c11 => ?_)
    · refine go_iconst (v := 0) (q := 23) (gDec iX2_acceptsNextDigit_ok 10 rfl) (by decide) rfl ?_
      exact go_ireturn (gDec iX2_acceptsNextDigit_ok 11 rfl) rfl rfl (by unfold gAn; first | rw [if_pos c4] | rw [if_neg c4, if_pos c11] | rw [if_neg c4, if_neg c11, if_neg c19]) (by unfold gAn; first | rw [if_pos c4] | rw [if_neg c4, if_pos c11] | rw [if_neg c4, if_neg c11, if_neg c19]) (by decide)
    · refine go_aload_n (q := 15) (gDec iX2_acceptsNextDigit_ok 6 rfl) rfl rfl rfl ?_
      refine go_geti (q := 18) fX2_49 (gDec iX2_acceptsNextDigit_ok 7 rfl) rfl (by decide) rfl ?_
      refine go_iconst (v := 4) (q := 19) (gDec iX2_acceptsNextDigit_ok 8 rfl) (by decide) rfl ?_
      refine go_icmp_lt (t := 24) (q := 22) (gDec iX2_acceptsNextDigit_ok 9 rfl) (by decide) rfl (fun c19 => ?_) (fun c19 => ?_)
      · refine go_aload_n (q := 25) (gDec iX2_acceptsNextDigit_ok 12 rfl) rfl rfl rfl ?_
        refine go_dup (q := 26) (gDec iX2_acceptsNextDigit_ok 13 rfl) rfl rfl ?_
        refine go_geti (q := 29) fX2_49 (gDec iX2_acceptsNextDigit_ok 14 rfl) rfl (by decide) rfl ?_
        refine go_iconst (v := 1) (q := 30) (gDec iX2_acceptsNextDigit_ok 15 rfl) (by decide) rfl ?_
        refine go_iadd (q := 31) (gDec iX2_acceptsNextDigit_ok 16 rfl) rfl ?_
        refine go_puti (q := 34) fX2_49 gft2 (gDec iX2_acceptsNextDigit_ok 17 rfl) rfl (by decide) rfl rfl rfl rfl ?_
        refine go_aload_n (q := 35) (gDec iX2_acceptsNextDigit_ok 18 rfl) rfl rfl rfl ?_
        refine go_aload_n (q := 36) (gDec iX2_acceptsNextDigit_ok 19 rfl) rfl rfl rfl ?_
        refine go_geti (q := 39) fX2_52 (gDec iX2_acceptsNextDigit_ok 20 rfl) rfl (by decide) rfl ?_
        refine go_bipush (v := 10) (q := 41) (gDec iX2_acceptsNextDigit_ok 21 rfl) (by decide) rfl ?_
        refine go_imul (q := 42) (gDec iX2_acceptsNextDigit_ok 22 rfl) rfl ?_
        refine go_iload_n (q := 43) (gDec iX2_acceptsNextDigit_ok 23 rfl) rfl rfl rfl ?_
        refine go_bipush (v := 48) (q := 45) (gDec iX2_acceptsNextDigit_ok 24 rfl) (by decide) rfl ?_
        refine go_isub (q := 46) (gDec iX2_acceptsNextDigit_ok 25 rfl) rfl ?_
        refine go_iadd (q := 47) (gDec iX2_acceptsNextDigit_ok 26 rfl) rfl ?_
        refine go_w (show _ = _ from rfl) ?_
        refine go_puti (q := 50) fX2_52 gft2 (gDec iX2_acceptsNextDigit_ok 27 rfl) rfl (by decide) rfl rfl rfl rfl ?_
        refine go_iconst (v := 1) (q := 51) (gDec iX2_acceptsNextDigit_ok 28 rfl) (by decide) rfl ?_
        exact go_ireturn (gDec iX2_acceptsNextDigit_ok 29 rfl) rfl rfl (by unfold gAn; rw [if_neg c4, if_neg c11, if_pos c19]) (by unfold gAn; rw [if_neg c4, if_neg c11, if_pos c19]; rfl) (by decide)
      · refine go_iconst (v := 0) (q := 23) (gDec iX2_acceptsNextDigit_ok 10 rfl) (by decide) rfl ?_
        exact go_ireturn (gDec iX2_acceptsNextDigit_ok 11 rfl) rfl rfl (by unfold gAn; first | rw [if_pos c4] | rw [if_neg c4, if_pos c11] | rw [if_neg c4, if_neg c11, if_neg c19]) (by unfold gAn; first | rw [if_pos c4] | rw [if_neg c4, if_pos c11] | rw [if_neg c4, if_neg c11, if_neg c19]) (by decide)

set_option maxHeartbeats 4000000 in
set_option maxRecDepth 100000 in
theorem ctX2_signedValue {κ : gK} {σ : gST}  : gCt κ mX2_signedValue 0 [.ref (κ.2.1 + 356)] σ (.inl (some (.int (gSv σ)))) σ 0 := by
  refine ct_of (by decide +kernel) rfl (Nat.le_of_ble_eq_true rfl) rfl ?_
  refine go_aload_n (q := 1) (gDec iX2_signedValue_ok 0 rfl) rfl rfl rfl ?_
  refine go_geti (q := 4) fX2_46 (gDec iX2_signedValue_ok 1 rfl) rfl (by decide) rfl ?_
  refine go_if_eq (t := 15) (q := 7) (gDec iX2_signedValue_ok 2 rfl) (by decide) rfl (fun c4 => ?_) (fun c4 => ?_)
  · refine go_aload_n (q := 16) (gDec iX2_signedValue_ok 7 rfl) rfl rfl rfl ?_
    refine go_geti (q := 19) fX2_52 (gDec iX2_signedValue_ok 8 rfl) rfl (by decide) rfl ?_
    exact go_ireturn (gDec iX2_signedValue_ok 9 rfl) rfl rfl (by unfold gSv; first | rw [if_pos c4] | rw [if_neg c4]) rfl (by decide)
  · refine go_aload_n (q := 8) (gDec iX2_signedValue_ok 3 rfl) rfl rfl rfl ?_
    refine go_geti (q := 11) fX2_52 (gDec iX2_signedValue_ok 4 rfl) rfl (by decide) rfl ?_
    refine go_ineg (q := 12) (gDec iX2_signedValue_ok 5 rfl) rfl ?_
    refine go_goto (t := 19) (gDec iX2_signedValue_ok 6 rfl) (by decide) ?_
    exact go_ireturn (gDec iX2_signedValue_ok 9 rfl) rfl rfl (by unfold gSv; first | rw [if_pos c4] | rw [if_neg c4]) rfl (by decide)

set_option maxHeartbeats 4000000 in
set_option maxRecDepth 100000 in
theorem ctX2_acceptsComma {κ : gK} {σ : gST} {c : Int32} {p : Nat} (hp : σ.1 356 6 = nI p) (hp60 : p < 60) : gCt κ mX2_acceptsComma 1 [.ref (κ.2.1 + 356), .int c] σ (.inl (some (.int (gAk σ c).1))) (gAk σ c).2 0 := by
  have hpa : nA (σ.1 356 6) = p := by rw [hp]; exact nA_nI (by omega)
  refine ct_of (by decide +kernel) rfl (Nat.le_of_ble_eq_true rfl) rfl ?_
  refine go_aload_n (q := 1) (gDec iX2_acceptsComma_ok 0 rfl) rfl rfl rfl ?_
  refine go_getr (r' := 357) (q := 4) fX2_14 (gDec iX2_acceptsComma_ok 1 rfl) rfl (by decide) rfl ?_
  refine go_aload_n (q := 5) (gDec iX2_acceptsComma_ok 2 rfl) rfl rfl rfl ?_
  refine go_geti (q := 8) fX2_36 (gDec iX2_acceptsComma_ok 3 rfl) rfl (by decide) rfl ?_
  refine go_top (v' := nI p) (hp) ?_
  refine go_aload_n (q := 9) (gDec iX2_acceptsComma_ok 4 rfl) rfl rfl rfl ?_
  refine go_callV (n2 := 0) (q := 12) kX2_128 ctX2_signedValue (gDec iX2_acceptsComma_ok 5 rfl) rfl rfl (by decide) rfl rfl rfl (Nat.le_of_ble_eq_true rfl) rfl (gFit_rm (by decide) (by decide)) rfl ?_
  refine go_callV (n2 := 0) (q := 15) kX2_131 (ctX7_put (a := 358) rfl rfl (by decide) (by decide) (i := p) (by omega) (by decide)) (gDec iX2_acceptsComma_ok 6 rfl) rfl rfl (by decide) rfl rfl rfl (Nat.le_of_ble_eq_true rfl) rfl (gFit_rm (by decide) (by decide)) rfl ?_
  refine go_aload_n (q := 16) (gDec iX2_acceptsComma_ok 7 rfl) rfl rfl rfl ?_
  refine go_iconst (v := 1) (q := 17) (gDec iX2_acceptsComma_ok 8 rfl) (by decide) rfl ?_
  refine go_callV (n2 := 0) (q := 20) kX2_115 ctX2_beginCoordinate1 (gDec iX2_acceptsComma_ok 9 rfl) rfl rfl (by decide) rfl rfl rfl (Nat.le_of_ble_eq_true rfl) rfl (gFit_rm (by decide) (by decide)) rfl ?_
  refine go_iload_n (q := 21) (gDec iX2_acceptsComma_ok 10 rfl) rfl rfl rfl ?_
  refine go_bipush (v := 44) (q := 23) (gDec iX2_acceptsComma_ok 11 rfl) (by decide) rfl ?_
  refine go_icmp_ne (t := 30) (q := 26) (gDec iX2_acceptsComma_ok 12 rfl) (by decide) rfl (fun c23 => ?_) (fun c23 => ?_)
  · refine go_iconst (v := 0) (q := 31) (gDec iX2_acceptsComma_ok 15 rfl) (by decide) rfl ?_
    exact go_ireturn (gDec iX2_acceptsComma_ok 16 rfl) rfl rfl (by unfold gAk; first | rw [if_pos (Classical.not_not.mp (fun h9 => absurd c23 h9))] | rw [if_neg c23]) (by unfold gAk; rw [hpa]) (by decide)
  · refine go_iconst (v := 1) (q := 27) (gDec iX2_acceptsComma_ok 13 rfl) (by decide) rfl ?_
    refine go_goto (t := 31) (gDec iX2_acceptsComma_ok 14 rfl) (by decide) ?_
    exact go_ireturn (gDec iX2_acceptsComma_ok 16 rfl) rfl rfl (by unfold gAk; first | rw [if_pos (Classical.not_not.mp (fun h9 => absurd c23 h9))] | rw [if_neg c23]) (by unfold gAk; rw [hpa]) (by decide)

set_option maxHeartbeats 4000000 in
set_option maxRecDepth 100000 in
theorem ctX2_acceptsEndOfPoint {κ : gK} {σ : gST} {c : Int32} {p k : Nat} (hp : σ.1 356 6 = nI p) (hp60 : p < 60) (hk : σ.1 356 5 = nI k) (hk60 : k < 60) : gCt κ mX2_acceptsEndOfPoint 1 [.ref (κ.2.1 + 356), .int c] σ (.inl (some (.int (gAp σ c).1))) (gAp σ c).2 0 := by
  have hpa : nA (σ.1 356 6) = p := by rw [hp]; exact nA_nI (by omega)
  have hka : nA (σ.1 356 5) = k := by rw [hk]; exact nA_nI (by omega)
  have hw : gApW σ = (gPut (gPut (gPut σ 360 p (gSv σ)) 356 6 (σ.1 356 6 + 1)) 356 7 (σ.1 356 7 + 1)) := by unfold gApW; rw [hpa]
  refine ct_of (by decide +kernel) rfl (Nat.le_of_ble_eq_true rfl) rfl ?_
  refine go_aload_n (q := 1) (gDec iX2_acceptsEndOfPoint_ok 0 rfl) rfl rfl rfl ?_
  refine go_getr (r' := 359) (q := 4) fX2_20 (gDec iX2_acceptsEndOfPoint_ok 1 rfl) rfl (by decide) rfl ?_
  refine go_aload_n (q := 5) (gDec iX2_acceptsEndOfPoint_ok 2 rfl) rfl rfl rfl ?_
  refine go_geti (q := 8) fX2_36 (gDec iX2_acceptsEndOfPoint_ok 3 rfl) rfl (by decide) rfl ?_
  refine go_top (v' := nI p) (hp) ?_
  refine go_aload_n (q := 9) (gDec iX2_acceptsEndOfPoint_ok 4 rfl) rfl rfl rfl ?_
  refine go_callV (n2 := 0) (q := 12) kX2_128 ctX2_signedValue (gDec iX2_acceptsEndOfPoint_ok 5 rfl) rfl rfl (by decide) rfl rfl rfl (Nat.le_of_ble_eq_true rfl) rfl (gFit_rm (by decide) (by decide)) rfl ?_
  refine go_callV (n2 := 0) (q := 15) kX2_131 (ctX7_put (a := 360) rfl rfl (by decide) (by decide) (i := p) (by omega) (by decide)) (gDec iX2_acceptsEndOfPoint_ok 6 rfl) rfl rfl (by decide) rfl rfl rfl (Nat.le_of_ble_eq_true rfl) rfl (gFit_rm (by decide) (by decide)) rfl ?_
  refine go_aload_n (q := 16) (gDec iX2_acceptsEndOfPoint_ok 7 rfl) rfl rfl rfl ?_
  refine go_dup (q := 17) (gDec iX2_acceptsEndOfPoint_ok 8 rfl) rfl rfl ?_
  refine go_geti (q := 20) fX2_36 (gDec iX2_acceptsEndOfPoint_ok 9 rfl) rfl (by decide) rfl ?_
  refine go_top (v' := σ.1 356 6) (congrFun (gPut_ne _ _ _ (by decide)) 6) ?_
  refine go_iconst (v := 1) (q := 21) (gDec iX2_acceptsEndOfPoint_ok 10 rfl) (by decide) rfl ?_
  refine go_iadd (q := 22) (gDec iX2_acceptsEndOfPoint_ok 11 rfl) rfl ?_
  refine go_puti (q := 25) fX2_36 gft2 (gDec iX2_acceptsEndOfPoint_ok 12 rfl) rfl (by decide) rfl rfl rfl rfl ?_
  refine go_aload_n (q := 26) (gDec iX2_acceptsEndOfPoint_ok 13 rfl) rfl rfl rfl ?_
  refine go_dup (q := 27) (gDec iX2_acceptsEndOfPoint_ok 14 rfl) rfl rfl ?_
  refine go_geti (q := 30) fX2_39 (gDec iX2_acceptsEndOfPoint_ok 15 rfl) rfl (by decide) rfl ?_
  refine go_top (v' := σ.1 356 7) ((by rw [gPut_at, if_neg (by decide)]; exact congrFun (gPut_ne _ _ _ (by decide)) 7)) ?_
  refine go_iconst (v := 1) (q := 31) (gDec iX2_acceptsEndOfPoint_ok 16 rfl) (by decide) rfl ?_
  refine go_iadd (q := 32) (gDec iX2_acceptsEndOfPoint_ok 17 rfl) rfl ?_
  refine go_puti (q := 35) fX2_39 gft2 (gDec iX2_acceptsEndOfPoint_ok 18 rfl) rfl (by decide) rfl rfl rfl rfl ?_
  refine go_iload_n (q := 36) (gDec iX2_acceptsEndOfPoint_ok 19 rfl) rfl rfl rfl ?_
  refine go_bipush (v := 41) (q := 38) (gDec iX2_acceptsEndOfPoint_ok 20 rfl) (by decide) rfl ?_
  refine go_icmp_ne (t := 81) (q := 41) (gDec iX2_acceptsEndOfPoint_ok 21 rfl) (by decide) rfl (fun c38 => ?_) (fun c38 => ?_)
  · refine go_aload_n (q := 82) (gDec iX2_acceptsEndOfPoint_ok 44 rfl) rfl rfl rfl ?_
    refine go_iconst (v := 0) (q := 83) (gDec iX2_acceptsEndOfPoint_ok 45 rfl) (by decide) rfl ?_
    refine go_callV (n2 := 0) (q := 86) kX2_115 ctX2_beginCoordinate0 (gDec iX2_acceptsEndOfPoint_ok 46 rfl) rfl rfl (by decide) rfl rfl rfl (Nat.le_of_ble_eq_true rfl) rfl (gFit_rm (by decide) (by decide)) rfl ?_
    refine go_iload_n (q := 87) (gDec iX2_acceptsEndOfPoint_ok 47 rfl) rfl rfl rfl ?_
    refine go_bipush (v := 32) (q := 89) (gDec iX2_acceptsEndOfPoint_ok 48 rfl) (by decide) rfl ?_
    refine go_icmp_ne (t := 96) (q := 92) (gDec iX2_acceptsEndOfPoint_ok 49 rfl) (by decide) rfl (fun c89 => ?_) (fun c89 => ?_)
    · refine go_iconst (v := 0) (q := 97) (gDec iX2_acceptsEndOfPoint_ok 52 rfl) (by decide) rfl ?_
      exact go_ireturn (gDec iX2_acceptsEndOfPoint_ok 53 rfl) rfl rfl (by unfold gAp; rw [if_neg (by first | exact (fun h9 => c38 h9.1) | exact (fun h9 => h9.2 c46))]; first | rw [if_pos (Classical.not_not.mp (fun h9 => absurd c89 h9))] | rw [if_neg c89]) (by unfold gAp; rw [if_neg (by first | exact (fun h9 => c38 h9.1) | exact (fun h9 => h9.2 c46)), hw]) (by decide)
    · refine go_iconst (v := 1) (q := 93) (gDec iX2_acceptsEndOfPoint_ok 50 rfl) (by decide) rfl ?_
      refine go_goto (t := 97) (gDec iX2_acceptsEndOfPoint_ok 51 rfl) (by decide) ?_
      exact go_ireturn (gDec iX2_acceptsEndOfPoint_ok 53 rfl) rfl rfl (by unfold gAp; rw [if_neg (by first | exact (fun h9 => c38 h9.1) | exact (fun h9 => h9.2 c46))]; first | rw [if_pos (Classical.not_not.mp (fun h9 => absurd c89 h9))] | rw [if_neg c89]) (by unfold gAp; rw [if_neg (by first | exact (fun h9 => c38 h9.1) | exact (fun h9 => h9.2 c46)), hw]) (by decide)
  · refine go_aload_n (q := 42) (gDec iX2_acceptsEndOfPoint_ok 22 rfl) rfl rfl rfl ?_
    refine go_geti (q := 45) fX2_39 (gDec iX2_acceptsEndOfPoint_ok 23 rfl) rfl (by decide) rfl ?_
    refine go_top (v' := σ.1 356 7 + 1) ((by rw [gPut_at, if_pos ⟨rfl, rfl⟩])) ?_
    refine go_iconst (v := 3) (q := 46) (gDec iX2_acceptsEndOfPoint_ok 24 rfl) (by decide) rfl ?_
    refine go_icmp_lt (t := 81) (q := 49) (gDec iX2_acceptsEndOfPoint_ok 25 rfl) (by decide) rfl (fun c46 => ?_) (fun c46 => ?_)
    · refine go_aload_n (q := 82) (gDec iX2_acceptsEndOfPoint_ok 44 rfl) rfl rfl rfl ?_
      refine go_iconst (v := 0) (q := 83) (gDec iX2_acceptsEndOfPoint_ok 45 rfl) (by decide) rfl ?_
      refine go_callV (n2 := 0) (q := 86) kX2_115 ctX2_beginCoordinate0 (gDec iX2_acceptsEndOfPoint_ok 46 rfl) rfl rfl (by decide) rfl rfl rfl (Nat.le_of_ble_eq_true rfl) rfl (gFit_rm (by decide) (by decide)) rfl ?_
      refine go_iload_n (q := 87) (gDec iX2_acceptsEndOfPoint_ok 47 rfl) rfl rfl rfl ?_
      refine go_bipush (v := 32) (q := 89) (gDec iX2_acceptsEndOfPoint_ok 48 rfl) (by decide) rfl ?_
      refine go_icmp_ne (t := 96) (q := 92) (gDec iX2_acceptsEndOfPoint_ok 49 rfl) (by decide) rfl (fun c89 => ?_) (fun c89 => ?_)
      · refine go_iconst (v := 0) (q := 97) (gDec iX2_acceptsEndOfPoint_ok 52 rfl) (by decide) rfl ?_
        exact go_ireturn (gDec iX2_acceptsEndOfPoint_ok 53 rfl) rfl rfl (by unfold gAp; rw [if_neg (by first | exact (fun h9 => c38 h9.1) | exact (fun h9 => h9.2 c46))]; first | rw [if_pos (Classical.not_not.mp (fun h9 => absurd c89 h9))] | rw [if_neg c89]) (by unfold gAp; rw [if_neg (by first | exact (fun h9 => c38 h9.1) | exact (fun h9 => h9.2 c46)), hw]) (by decide)
      · refine go_iconst (v := 1) (q := 93) (gDec iX2_acceptsEndOfPoint_ok 50 rfl) (by decide) rfl ?_
        refine go_goto (t := 97) (gDec iX2_acceptsEndOfPoint_ok 51 rfl) (by decide) ?_
        exact go_ireturn (gDec iX2_acceptsEndOfPoint_ok 53 rfl) rfl rfl (by unfold gAp; rw [if_neg (by first | exact (fun h9 => c38 h9.1) | exact (fun h9 => h9.2 c46))]; first | rw [if_pos (Classical.not_not.mp (fun h9 => absurd c89 h9))] | rw [if_neg c89]) (by unfold gAp; rw [if_neg (by first | exact (fun h9 => c38 h9.1) | exact (fun h9 => h9.2 c46)), hw]) (by decide)
    · refine go_aload_n (q := 50) (gDec iX2_acceptsEndOfPoint_ok 26 rfl) rfl rfl rfl ?_
      refine go_getr (r' := 361) (q := 53) fX2_23 (gDec iX2_acceptsEndOfPoint_ok 27 rfl) rfl (by decide) rfl ?_
      refine go_aload_n (q := 54) (gDec iX2_acceptsEndOfPoint_ok 28 rfl) rfl rfl rfl ?_
      refine go_geti (q := 57) fX2_33 (gDec iX2_acceptsEndOfPoint_ok 29 rfl) rfl (by decide) rfl ?_
      refine go_top (v' := nI k) ((by rw [gPut_at, if_neg (by decide), gPut_at, if_neg (by decide)]; exact (congrFun (gPut_ne _ _ _ (by decide)) 5).trans hk)) ?_
      refine go_aload_n (q := 58) (gDec iX2_acceptsEndOfPoint_ok 30 rfl) rfl rfl rfl ?_
      refine go_geti (q := 61) fX2_39 (gDec iX2_acceptsEndOfPoint_ok 31 rfl) rfl (by decide) rfl ?_
      refine go_top (v' := σ.1 356 7 + 1) ((by rw [gPut_at, if_pos ⟨rfl, rfl⟩])) ?_
      refine go_callV (n2 := 0) (q := 64) kX2_131 (ctX7_put (a := 362) rfl rfl (by decide) (by decide) (i := k) (by omega) (by decide)) (gDec iX2_acceptsEndOfPoint_ok 32 rfl) rfl rfl (by decide) rfl rfl rfl (Nat.le_of_ble_eq_true rfl) rfl (gFit_rm (by decide) (by decide)) rfl ?_
      refine go_aload_n (q := 65) (gDec iX2_acceptsEndOfPoint_ok 33 rfl) rfl rfl rfl ?_
      refine go_dup (q := 66) (gDec iX2_acceptsEndOfPoint_ok 34 rfl) rfl rfl ?_
      refine go_geti (q := 69) fX2_33 (gDec iX2_acceptsEndOfPoint_ok 35 rfl) rfl (by decide) rfl ?_
      refine go_top (v' := σ.1 356 5) ((by rw [gPut_ne _ _ _ (by decide), gPut_at, if_neg (by decide), gPut_at, if_neg (by decide)]; exact congrFun (gPut_ne _ _ _ (by decide)) 5)) ?_
      refine go_iconst (v := 1) (q := 70) (gDec iX2_acceptsEndOfPoint_ok 36 rfl) (by decide) rfl ?_
      refine go_iadd (q := 71) (gDec iX2_acceptsEndOfPoint_ok 37 rfl) rfl ?_
      refine go_puti (q := 74) fX2_33 gft2 (gDec iX2_acceptsEndOfPoint_ok 38 rfl) rfl (by decide) rfl rfl rfl rfl ?_
      refine go_aload_n (q := 75) (gDec iX2_acceptsEndOfPoint_ok 39 rfl) rfl rfl rfl ?_
      refine go_iconst (v := 5) (q := 76) (gDec iX2_acceptsEndOfPoint_ok 40 rfl) (by decide) rfl ?_
      refine go_puti (q := 79) fX2_26 gft2 (gDec iX2_acceptsEndOfPoint_ok 41 rfl) rfl (by decide) rfl rfl rfl rfl ?_
      refine go_iconst (v := 1) (q := 80) (gDec iX2_acceptsEndOfPoint_ok 42 rfl) (by decide) rfl ?_
      exact go_ireturn (gDec iX2_acceptsEndOfPoint_ok 43 rfl) rfl rfl (by unfold gAp; rw [if_pos ⟨c38, c46⟩]) (by unfold gAp; rw [if_pos ⟨c38, c46⟩, hw, hka]) (by decide)
