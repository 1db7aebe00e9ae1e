def iX0_copyFrom : List (Nat × Instr × Nat) := [(0, .aload_n 0, 1), (1, .getfield 14, 3), (4, .aload_n 1, 1), (5, .getfield 14, 3), (8, .invokevirtual 26, 3), (11, .aload_n 0, 1), (12, .getfield 20, 3), (15, .aload_n 1, 1), (16, .getfield 20, 3), (19, .invokevirtual 26, 3), (22, .aload_n 0, 1), (23, .getfield 23, 3), (26, .aload_n 1, 1), (27, .getfield 23, 3), (30, .invokevirtual 26, 3), (33, .return_, 1)]
theorem iX0_copyFrom_ok : gDecs mX0_copyFrom iX0_copyFrom := by decide +kernel
def iX0_index : List (Nat × Instr × Nat) := [(0, .iload_n 0, 1), (1, .iconst 2, 1), (2, .imul, 1), (3, .iload_n 1, 1), (4, .iadd, 1), (5, .ireturn, 1)]
theorem iX0_index_ok : gDecs mX0_index iX0_index := by decide +kernel
def iX0_tell : List (Nat × Instr × Nat) := [(0, .aload_n 0, 1), (1, .getfield 14, 3), (4, .iload_n 1, 1), (5, .iload_n 2, 1), (6, .invokestatic 30, 3), (9, .iload_n 3, 1), (10, .invokevirtual 34, 3), (13, .aload_n 0, 1), (14, .getfield 20, 3), (17, .iload_n 1, 1), (18, .iload_n 2, 1), (19, .invokestatic 30, 3), (22, .iconst (-1), 1), (23, .invokevirtual 34, 3), (26, .return_, 1)]
theorem iX0_tell_ok : gDecs mX0_tell iX0_tell := by decide +kernel
def iX0_setRule : List (Nat × Instr × Nat) := [(0, .aload_n 0, 1), (1, .getfield 20, 3), (4, .iload_n 1, 1), (5, .iload_n 2, 1), (6, .invokestatic 30, 3), (9, .iload_n 3, 1), (10, .invokevirtual 34, 3), (13, .aload_n 0, 1), (14, .getfield 23, 3), (17, .iload_n 1, 1), (18, .iload_n 2, 1), (19, .invokestatic 30, 3), (22, .iload 4, 2), (24, .invokevirtual 34, 3), (27, .return_, 1)]
theorem iX0_setRule_ok : gDecs mX0_setRule iX0_setRule := by decide +kernel
def iX0_valueOf : List (Nat × Instr × Nat) := [(0, .iload_n 1, 1), (1, .iload_n 2, 1), (2, .invokestatic 30, 3), (5, .istore_n 3, 1), (6, .iconst 0, 1), (7, .istore 4, 2), (9, .iconst 0, 1), (10, .istore 5, 2), (12, .iload 5, 2), (14, .bipush 48, 2), (16, .if_icmp .ge 43, 3), (19, .aload_n 0, 1), (20, .getfield 20, 3), (23, .iload_n 3, 1), (24, .invokevirtual 37, 3), (27, .iconst (-1), 1), (28, .if_icmp .eq 31, 3), (31, .iload 4, 2), (33, .aload_n 0, 1), (34, .getfield 23, 3), (37, .iload_n 3, 1), (38, .invokevirtual 37, 3), (41, .iadd, 1), (42, .istore 4, 2), (44, .aload_n 0, 1), (45, .getfield 20, 3), (48, .iload_n 3, 1), (49, .invokevirtual 37, 3), (52, .istore_n 3, 1), (53, .iinc 5 1, 3), (56, .goto (-44), 3), (59, .iload 4, 2), (61, .aload_n 0, 1), (62, .getfield 14, 3), (65, .iload_n 3, 1), (66, .invokevirtual 37, 3), (69, .iadd, 1), (70, .ireturn, 1)]
theorem iX0_valueOf_ok : gDecs mX0_valueOf iX0_valueOf := by decide +kernel
def iX0_ruleCount : List (Nat × Instr × Nat) := [(0, .iload_n 1, 1), (1, .iload_n 2, 1), (2, .invokestatic 30, 3), (5, .istore_n 3, 1), (6, .iconst 0, 1), (7, .istore 4, 2), (9, .iload 4, 2), (11, .bipush 48, 2), (13, .if_icmp .ge 30, 3), (16, .aload_n 0, 1), (17, .getfield 20, 3), (20, .iload_n 3, 1), (21, .invokevirtual 37, 3), (24, .iconst (-1), 1), (25, .if_icmp .eq 18, 3), (28, .aload_n 0, 1), (29, .getfield 20, 3), (32, .iload_n 3, 1), (33, .invokevirtual 37, 3), (36, .istore_n 3, 1), (37, .iinc 4 1, 3), (40, .goto (-31), 3), (43, .iload 4, 2), (45, .ireturn, 1)]
theorem iX0_ruleCount_ok : gDecs mX0_ruleCount iX0_ruleCount := by decide +kernel
def iX0_leaderGlyph : List (Nat × Instr × Nat) := [(0, .aload_n 0, 1), (1, .getfield 20, 3), (4, .iload_n 1, 1), (5, .iload_n 2, 1), (6, .invokestatic 30, 3), (9, .invokevirtual 37, 3), (12, .istore_n 3, 1), (13, .iload_n 3, 1), (14, .iconst (-1), 1), (15, .if_icmp .ne 7, 3), (18, .iconst (-1), 1), (19, .goto 6, 3), (22, .iload_n 3, 1), (23, .iconst 2, 1), (24, .idiv, 1), (25, .ireturn, 1)]
theorem iX0_leaderGlyph_ok : gDecs mX0_leaderGlyph iX0_leaderGlyph := by decide +kernel
def iX0_leaderSide : List (Nat × Instr × Nat) := [(0, .aload_n 0, 1), (1, .getfield 20, 3), (4, .iload_n 1, 1), (5, .iload_n 2, 1), (6, .invokestatic 30, 3), (9, .invokevirtual 37, 3), (12, .istore_n 3, 1), (13, .iload_n 3, 1), (14, .iconst (-1), 1), (15, .if_icmp .ne 7, 3), (18, .iconst (-1), 1), (19, .goto 6, 3), (22, .iload_n 3, 1), (23, .iconst 2, 1), (24, .irem, 1), (25, .ireturn, 1)]
theorem iX0_leaderSide_ok : gDecs mX0_leaderSide iX0_leaderSide := by decide +kernel
def iX0_leadsTo : List (Nat × Instr × Nat) := [(0, .iload_n 1, 1), (1, .istore_n 3, 1), (2, .iconst 0, 1), (3, .istore 4, 2), (5, .iload 4, 2), (7, .bipush 48, 2), (9, .if_icmp .gt 30, 3), (12, .iload_n 3, 1), (13, .iconst (-1), 1), (14, .if_icmp .eq 25, 3), (17, .iload_n 3, 1), (18, .iload_n 2, 1), (19, .if_icmp .ne 5, 3), (22, .iconst 1, 1), (23, .ireturn, 1), (24, .aload_n 0, 1), (25, .getfield 20, 3), (28, .iload_n 3, 1), (29, .invokevirtual 37, 3), (32, .istore_n 3, 1), (33, .iinc 4 1, 3), (36, .goto (-31), 3), (39, .iconst 0, 1), (40, .ireturn, 1)]
theorem iX0_leadsTo_ok : gDecs mX0_leadsTo iX0_leadsTo := by decide +kernel
def iX0_followerCount : List (Nat × Instr × Nat) := [(0, .iload_n 1, 1), (1, .iload_n 2, 1), (2, .invokestatic 30, 3), (5, .istore_n 3, 1), (6, .iconst 0, 1), (7, .istore 4, 2), (9, .iconst 0, 1), (10, .istore 5, 2), (12, .iload 5, 2), (14, .bipush 48, 2), (16, .if_icmp .ge 28, 3), (19, .iload 5, 2), (21, .iload_n 3, 1), (22, .if_icmp .eq 16, 3), (25, .aload_n 0, 1), (26, .iload 5, 2), (28, .iload_n 3, 1), (29, .invokevirtual 41, 3), (32, .ifCond .eq 6, 3), (35, .iinc 4 1, 3), (38, .iinc 5 1, 3), (41, .goto (-29), 3), (44, .iload 4, 2), (46, .ireturn, 1)]
theorem iX0_followerCount_ok : gDecs mX0_followerCount iX0_followerCount := by decide +kernel
def iX0_ruleSum : List (Nat × Instr × Nat) := [(0, .iconst 0, 1), (1, .istore_n 1, 1), (2, .iconst 0, 1), (3, .istore_n 2, 1), (4, .iload_n 2, 1), (5, .bipush 48, 2), (7, .if_icmp .ge 24, 3), (10, .aload_n 0, 1), (11, .getfield 20, 3), (14, .iload_n 2, 1), (15, .invokevirtual 37, 3), (18, .iconst (-1), 1), (19, .if_icmp .eq 6, 3), (22, .iinc 1 1, 3), (25, .iinc 2 1, 3), (28, .goto (-24), 3), (31, .iload_n 1, 1), (32, .ireturn, 1)]
theorem iX0_ruleSum_ok : gDecs mX0_ruleSum iX0_ruleSum := by decide +kernel
def iX4_copyFrom : List (Nat × Instr × Nat) := [(0, .aload_n 0, 1), (1, .getfield 14, 3), (4, .aload_n 1, 1), (5, .getfield 14, 3), (8, .invokevirtual 36, 3), (11, .aload_n 0, 1), (12, .getfield 20, 3), (15, .aload_n 1, 1), (16, .getfield 20, 3), (19, .invokevirtual 36, 3), (22, .aload_n 0, 1), (23, .getfield 23, 3), (26, .aload_n 1, 1), (27, .getfield 23, 3), (30, .invokevirtual 36, 3), (33, .aload_n 0, 1), (34, .getfield 26, 3), (37, .aload_n 1, 1), (38, .getfield 26, 3), (41, .invokevirtual 36, 3), (44, .aload_n 0, 1), (45, .aload_n 1, 1), (46, .getfield 29, 3), (49, .putfield 29, 3), (52, .aload_n 0, 1), (53, .aload_n 1, 1), (54, .getfield 33, 3), (57, .putfield 33, 3), (60, .return_, 1)]
theorem iX4_copyFrom_ok : gDecs mX4_copyFrom iX4_copyFrom := by decide +kernel
def iX4_classOf : List (Nat × Instr × Nat) := [(0, .iload_n 2, 1), (1, .ifCond .eq 14, 3), (4, .aload_n 0, 1), (5, .getfield 14, 3), (8, .iload_n 1, 1), (9, .invokevirtual 40, 3), (12, .goto 11, 3), (15, .aload_n 0, 1), (16, .getfield 20, 3), (19, .iload_n 1, 1), (20, .invokevirtual 40, 3), (23, .ireturn, 1)]
theorem iX4_classOf_ok : gDecs mX4_classOf iX4_classOf := by decide +kernel
def iX4_putIntoClass : List (Nat × Instr × Nat) := [(0, .iload_n 2, 1), (1, .ifCond .eq 10, 3), (4, .aload_n 0, 1), (5, .getfield 14, 3), (8, .goto 7, 3), (11, .aload_n 0, 1), (12, .getfield 20, 3), (15, .astore 4, 2), (17, .aload 4, 2), (19, .iload_n 1, 1), (20, .iload_n 3, 1), (21, .invokevirtual 44, 3), (24, .return_, 1)]
theorem iX4_putIntoClass_ok : gDecs mX4_putIntoClass iX4_putIntoClass := by decide +kernel
def iX4_areClasses : List (Nat × Instr × Nat) := [(0, .iload_n 0, 1), (1, .i2l, 1), (2, .lconst 0, 1), (3, .ldc2_w 47, 3), (6, .invokestatic 49, 3), (9, .ifCond .eq 19, 3), (12, .iload_n 1, 1), (13, .i2l, 1), (14, .lconst 0, 1), (15, .ldc2_w 47, 3), (18, .invokestatic 49, 3), (21, .ifCond .eq 7, 3), (24, .iconst 1, 1), (25, .goto 4, 3), (28, .iconst 0, 1), (29, .ireturn, 1)]
theorem iX4_areClasses_ok : gDecs mX4_areClasses iX4_areClasses := by decide +kernel
def iX4_isClassKernTold : List (Nat × Instr × Nat) := [(0, .iload_n 1, 1), (1, .iload_n 2, 1), (2, .invokestatic 53, 3), (5, .ifCond .eq 26, 3), (8, .aload_n 0, 1), (9, .getfield 23, 3), (12, .iload_n 1, 1), (13, .bipush 6, 2), (15, .imul, 1), (16, .iload_n 2, 1), (17, .iadd, 1), (18, .invokevirtual 40, 3), (21, .sipush 301, 3), (24, .if_icmp .eq 7, 3), (27, .iconst 1, 1), (28, .goto 4, 3), (31, .iconst 0, 1), (32, .ireturn, 1)]
theorem iX4_isClassKernTold_ok : gDecs mX4_isClassKernTold iX4_isClassKernTold := by decide +kernel
def iX4_isPairTold : List (Nat × Instr × Nat) := [(0, .iload_n 1, 1), (1, .i2l, 1), (2, .lconst 0, 1), (3, .ldc2_w 57, 3), (6, .invokestatic 49, 3), (9, .ifCond .eq 38, 3), (12, .iload_n 2, 1), (13, .i2l, 1), (14, .lconst 0, 1), (15, .ldc2_w 57, 3), (18, .invokestatic 49, 3), (21, .ifCond .eq 26, 3), (24, .aload_n 0, 1), (25, .getfield 26, 3), (28, .iload_n 1, 1), (29, .bipush 24, 2), (31, .imul, 1), (32, .iload_n 2, 1), (33, .iadd, 1), (34, .invokevirtual 40, 3), (37, .sipush 301, 3), (40, .if_icmp .eq 7, 3), (43, .iconst 1, 1), (44, .goto 4, 3), (47, .iconst 0, 1), (48, .ireturn, 1)]
theorem iX4_isPairTold_ok : gDecs mX4_isPairTold iX4_isPairTold := by decide +kernel
def iX4_isToldForClassesOf : List (Nat × Instr × Nat) := [(0, .aload_n 0, 1), (1, .aload_n 0, 1), (2, .getfield 14, 3), (5, .iload_n 1, 1), (6, .invokevirtual 40, 3), (9, .aload_n 0, 1), (10, .getfield 20, 3), (13, .iload_n 2, 1), (14, .invokevirtual 40, 3), (17, .invokevirtual 59, 3), (20, .ireturn, 1)]
theorem iX4_isToldForClassesOf_ok : gDecs mX4_isToldForClassesOf iX4_isToldForClassesOf := by decide +kernel
def iX4_tellClasses : List (Nat × Instr × Nat) := [(0, .aload_n 0, 1), (1, .iload_n 1, 1), (2, .iload_n 2, 1), (3, .invokevirtual 59, 3), (6, .ifCond .ne 13, 3), (9, .aload_n 0, 1), (10, .dup, 1), (11, .getfield 29, 3), (14, .iconst 1, 1), (15, .iadd, 1), (16, .putfield 29, 3), (19, .aload_n 0, 1), (20, .getfield 23, 3), (23, .iload_n 1, 1), (24, .bipush 6, 2), (26, .imul, 1), (27, .iload_n 2, 1), (28, .iadd, 1), (29, .iload_n 3, 1), (30, .invokevirtual 44, 3), (33, .return_, 1)]
theorem iX4_tellClasses_ok : gDecs mX4_tellClasses iX4_tellClasses := by decide +kernel
def iX4_tellPair : List (Nat × Instr × Nat) := [(0, .aload_n 0, 1), (1, .iload_n 1, 1), (2, .iload_n 2, 1), (3, .invokevirtual 62, 3), (6, .ifCond .ne 13, 3), (9, .aload_n 0, 1), (10, .dup, 1), (11, .getfield 33, 3), (14, .iconst 1, 1), (15, .iadd, 1), (16, .putfield 33, 3), (19, .aload_n 0, 1), (20, .getfield 26, 3), (23, .iload_n 1, 1), (24, .bipush 24, 2), (26, .imul, 1), (27, .iload_n 2, 1), (28, .iadd, 1), (29, .iload_n 3, 1), (30, .invokevirtual 44, 3), (33, .return_, 1)]
theorem iX4_tellPair_ok : gDecs mX4_tellPair iX4_tellPair := by decide +kernel
def iX4_dropClasses : List (Nat × Instr × Nat) := [(0, .aload_n 0, 1), (1, .getfield 23, 3), (4, .iload_n 1, 1), (5, .bipush 6, 2), (7, .imul, 1), (8, .iload_n 2, 1), (9, .iadd, 1), (10, .invokevirtual 40, 3), (13, .istore_n 3, 1), (14, .aload_n 0, 1), (15, .getfield 23, 3), (18, .iload_n 1, 1), (19, .bipush 6, 2), (21, .imul, 1), (22, .iload_n 2, 1), (23, .iadd, 1), (24, .sipush 301, 3), (27, .invokevirtual 44, 3), (30, .aload_n 0, 1), (31, .dup, 1), (32, .getfield 29, 3), (35, .iconst 1, 1), (36, .isub, 1), (37, .putfield 29, 3), (40, .iload_n 3, 1), (41, .ireturn, 1)]
theorem iX4_dropClasses_ok : gDecs mX4_dropClasses iX4_dropClasses := by decide +kernel
def iX4_dropPair : List (Nat × Instr × Nat) := [(0, .aload_n 0, 1), (1, .getfield 26, 3), (4, .iload_n 1, 1), (5, .bipush 24, 2), (7, .imul, 1), (8, .iload_n 2, 1), (9, .iadd, 1), (10, .invokevirtual 40, 3), (13, .istore_n 3, 1), (14, .aload_n 0, 1), (15, .getfield 26, 3), (18, .iload_n 1, 1), (19, .bipush 24, 2), (21, .imul, 1), (22, .iload_n 2, 1), (23, .iadd, 1), (24, .sipush 301, 3), (27, .invokevirtual 44, 3), (30, .aload_n 0, 1), (31, .dup, 1), (32, .getfield 33, 3), (35, .iconst 1, 1), (36, .isub, 1), (37, .putfield 33, 3), (40, .iload_n 3, 1), (41, .ireturn, 1)]
theorem iX4_dropPair_ok : gDecs mX4_dropPair iX4_dropPair := by decide +kernel
def iX4_classKernCount : List (Nat × Instr × Nat) := [(0, .aload_n 0, 1), (1, .getfield 29, 3), (4, .ireturn, 1)]
theorem iX4_classKernCount_ok : gDecs mX4_classKernCount iX4_classKernCount := by decide +kernel
def iX4_pairKernCount : List (Nat × Instr × Nat) := [(0, .aload_n 0, 1), (1, .getfield 33, 3), (4, .ireturn, 1)]
theorem iX4_pairKernCount_ok : gDecs mX4_pairKernCount iX4_pairKernCount := by decide +kernel
def iX4_kernOf : List (Nat × Instr × Nat) := [(0, .aload_n 0, 1), (1, .iload_n 1, 1), (2, .iload_n 2, 1), (3, .invokevirtual 62, 3), (6, .ifCond .eq 17, 3), (9, .aload_n 0, 1), (10, .getfield 26, 3), (13, .iload_n 1, 1), (14, .bipush 24, 2), (16, .imul, 1), (17, .iload_n 2, 1), (18, .iadd, 1), (19, .invokevirtual 40, 3), (22, .ireturn, 1), (23, .aload_n 0, 1), (24, .iload_n 1, 1), (25, .iload_n 2, 1), (26, .invokevirtual 65, 3), (29, .ifCond .eq 31, 3), (32, .aload_n 0, 1), (33, .getfield 23, 3), (36, .aload_n 0, 1), (37, .getfield 14, 3), (40, .iload_n 1, 1), (41, .invokevirtual 40, 3), (44, .bipush 6, 2), (46, .imul, 1), (47, .aload_n 0, 1), (48, .getfield 20, 3), (51, .iload_n 2, 1), (52, .invokevirtual 40, 3), (55, .iadd, 1), (56, .invokevirtual 40, 3), (59, .ireturn, 1), (60, .iconst 0, 1), (61, .ireturn, 1)]
theorem iX4_kernOf_ok : gDecs mX4_kernOf iX4_kernOf := by decide +kernel
def iX10_isWithin : List (Nat × Instr × Nat) := [(0, .lload_n 0, 1), (1, .lload_n 2, 1), (2, .lcmp, 1), (3, .ifCond .lt 14, 3), (6, .lload_n 0, 1), (7, .lload 4, 2), (9, .lcmp, 1), (10, .ifCond .gt 7, 3), (13, .iconst 1, 1), (14, .goto 4, 3), (17, .iconst 0, 1), (18, .ireturn, 1)]
theorem iX10_isWithin_ok : gDecs mX10_isWithin iX10_isWithin := by decide +kernel

/-- an int within bounds: 1 or 0 -/
def gWi (v lo hi : Int) : Int32 := if lo ≤ v ∧ v ≤ hi then 1 else 0
theorem gWi_t {v lo hi : Int} (h : lo ≤ v ∧ v ≤ hi) : gWi v lo hi = 1 := if_pos h
theorem gWi_f {v lo hi : Int} (h : ¬ (lo ≤ v ∧ v ≤ hi)) : gWi v lo hi = 0 := if_neg h
theorem gWi_1 {v lo hi : Int} (h : ¬ gWi v lo hi = 0) : lo ≤ v ∧ v ≤ hi := Classical.not_not.mp (fun c => h (gWi_f c))
theorem gWi_0 {v lo hi : Int} (h : gWi v lo hi = 0) : ¬ (lo ≤ v ∧ v ≤ hi) := fun c => by rw [gWi_t c] at h; cases h
theorem gWi_nz (v lo hi : Int) : narrow .boolean (.int (gWi v lo hi)) = .int (gWi v lo hi) := by unfold gWi; split <;> decide +kernel
theorem i2l_toInt (x : Int32) : x.toInt64.toInt = x.toInt := Int32.toInt_toInt64 x
theorem nI_i2l {n : Nat} (h : n < 2 ^ 31) : (nI n).toInt64.toInt = n := by rw [i2l_toInt, nI_toInt h]
/-- a nat that an int in bounds is -/
theorem nI_ex {x : Int32} {n : Nat} (h : 0 ≤ x.toInt ∧ x.toInt ≤ n) : ∃ k : Nat, k ≤ n ∧ x = nI k := by
  refine ⟨x.toInt.toNat, by omega, ?_⟩
  apply Int32.toInt_inj.mp
  have hx := x.toInt_lt
  rw [nI_toInt (by omega)]
  omega

set_option maxHeartbeats 4000000 in
set_option maxRecDepth 100000 in
theorem ctX10_isWithin {κ : gK} {σ : gST} {v lo hi : Int64} : gCt κ mX10_isWithin 0 [.long v, .long lo, .long hi] σ (.inl (some (.int (gWi v.toInt lo.toInt hi.toInt)))) σ 0 := by
  refine ct_of (by decide +kernel) rfl (Nat.le_of_ble_eq_true rfl) rfl ?_
  refine go_lload_n (q := 1) (gDec iX10_isWithin_ok 0 rfl) rfl rfl rfl ?_
  refine go_lload_n (q := 2) (gDec iX10_isWithin_ok 1 rfl) rfl rfl rfl ?_
  refine go_lcmp (q := 3) (gDec iX10_isWithin_ok 2 rfl) rfl ?_
  refine go_if_lt (t := 17) (q := 6) (gDec iX10_isWithin_ok 3 rfl) (by decide) rfl (fun c3 => ?_) (fun c3 => ?_)
  · refine go_iconst (v := 0) (q := 18) (gDec iX10_isWithin_ok 10 rfl) (by decide) rfl ?_
    exact go_ireturn (gDec iX10_isWithin_ok 11 rfl) rfl rfl (by first | (rw [gWi_f (fun h => by have h9 := Int64.lt_iff_toInt_lt.mp ((lg_cmp_lt _ _).mp c3); omega)]) | (rw [gWi_f (fun h => by have h9 := Int64.lt_iff_toInt_lt.mp ((lg_cmp_gt _ _).mp c10); omega)]) | (rw [gWi_t (by have h8 : ¬ v.toInt < lo.toInt := (fun h => c3 ((lg_cmp_lt _ _).mpr (Int64.lt_iff_toInt_lt.mpr h))); have h9 : ¬ hi.toInt < v.toInt := (fun h => c10 ((lg_cmp_gt _ _).mpr (Int64.lt_iff_toInt_lt.mpr h))); omega)])) rfl (by decide)
  · refine go_lload_n (q := 7) (gDec iX10_isWithin_ok 4 rfl) rfl rfl rfl ?_
    refine go_lload (q := 9) (gDec iX10_isWithin_ok 5 rfl) rfl rfl ?_
    refine go_lcmp (q := 10) (gDec iX10_isWithin_ok 6 rfl) rfl ?_
    refine go_if_gt (t := 17) (q := 13) (gDec iX10_isWithin_ok 7 rfl) (by decide) rfl (fun c10 => ?_) (fun c10 => ?_)
    · refine go_iconst (v := 0) (q := 18) (gDec iX10_isWithin_ok 10 rfl) (by decide) rfl ?_
      exact go_ireturn (gDec iX10_isWithin_ok 11 rfl) rfl rfl (by first | (rw [gWi_f (fun h => by have h9 := Int64.lt_iff_toInt_lt.mp ((lg_cmp_lt _ _).mp c3); omega)]) | (rw [gWi_f (fun h => by have h9 := Int64.lt_iff_toInt_lt.mp ((lg_cmp_gt _ _).mp c10); omega)]) | (rw [gWi_t (by have h8 : ¬ v.toInt < lo.toInt := (fun h => c3 ((lg_cmp_lt _ _).mpr (Int64.lt_iff_toInt_lt.mpr h))); have h9 : ¬ hi.toInt < v.toInt := (fun h => c10 ((lg_cmp_gt _ _).mpr (Int64.lt_iff_toInt_lt.mpr h))); omega)])) rfl (by decide)
    · refine go_iconst (v := 1) (q := 14) (gDec iX10_isWithin_ok 8 rfl) (by decide) rfl ?_
      refine go_goto (t := 18) (gDec iX10_isWithin_ok 9 rfl) (by decide) ?_
      exact go_ireturn (gDec iX10_isWithin_ok 11 rfl) rfl rfl (by first | (rw [gWi_f (fun h => by have h9 := Int64.lt_iff_toInt_lt.mp ((lg_cmp_lt _ _).mp c3); omega)]) | (rw [gWi_f (fun h => by have h9 := Int64.lt_iff_toInt_lt.mp ((lg_cmp_gt _ _).mp c10); omega)]) | (rw [gWi_t (by have h8 : ¬ v.toInt < lo.toInt := (fun h => c3 ((lg_cmp_lt _ _).mpr (Int64.lt_iff_toInt_lt.mpr h))); have h9 : ¬ hi.toInt < v.toInt := (fun h => c10 ((lg_cmp_gt _ _).mpr (Int64.lt_iff_toInt_lt.mpr h))); omega)])) rfl (by decide)

set_option maxHeartbeats 4000000 in
set_option maxRecDepth 100000 in
theorem ctX0_index {κ : gK} {σ : gST} {g s : Nat} : gCt κ mX0_index 0 [.int (nI g), .int (nI s)] σ (.inl (some (.int (nI (g * 2 + s))))) σ 0 := by
  refine ct_of (by decide +kernel) rfl (Nat.le_of_ble_eq_true rfl) rfl ?_
  refine go_iload_n (q := 1) (gDec iX0_index_ok 0 rfl) rfl rfl rfl ?_
  refine go_iconst (v := 2) (q := 2) (gDec iX0_index_ok 1 rfl) (by decide) rfl ?_
  refine go_imul (q := 3) (gDec iX0_index_ok 2 rfl) rfl ?_
  refine go_iload_n (q := 4) (gDec iX0_index_ok 3 rfl) rfl rfl rfl ?_
  refine go_iadd (q := 5) (gDec iX0_index_ok 4 rfl) rfl ?_
  exact go_ireturn (gDec iX0_index_ok 5 rfl) rfl rfl (by rw [show (2 : Int32) = nI 2 from rfl, nI_mul, nI_add]) rfl (by decide)

set_option maxHeartbeats 4000000 in
set_option maxRecDepth 100000 in
theorem ctX0_tell {κ : gK} {σ : gST} {g s : Nat} {v : Int32} (hg : g < 24) (hs : s < 2) : gCt κ mX0_tell 1 [.ref (κ.2.1 + 13), .int (nI g), .int (nI s), .int v] σ (.inl none) (gPut (gPut σ 15 (g * 2 + s) v) 17 (g * 2 + s) (-1)) 0 := by
  refine ct_of (by decide +kernel) rfl (Nat.le_of_ble_eq_true rfl) rfl ?_
  refine go_aload_n (q := 1) (gDec iX0_tell_ok 0 rfl) rfl rfl rfl ?_
  refine go_getr (r' := 14) (q := 4) fX0_14 (gDec iX0_tell_ok 1 rfl) rfl (by decide) rfl ?_
  refine go_iload_n (q := 5) (gDec iX0_tell_ok 2 rfl) rfl rfl rfl ?_
  refine go_iload_n (q := 6) (gDec iX0_tell_ok 3 rfl) rfl rfl rfl ?_
  refine go_callS (n2 := 0) (q := 9) kX0_30 ctX0_index (gDec iX0_tell_ok 4 rfl) rfl rfl (Nat.le_of_ble_eq_true rfl) rfl (gFit_rm (by decide) (by decide)) rfl ?_
  refine go_iload_n (q := 10) (gDec iX0_tell_ok 5 rfl) rfl rfl rfl ?_
  refine go_callV (n2 := 0) (q := 13) kX0_34 (ctX7_put (a := 15) rfl rfl (by decide) (by decide) (by omega) (by decide)) (gDec iX0_tell_ok 6 rfl) rfl rfl (by decide) rfl rfl rfl (Nat.le_of_ble_eq_true rfl) rfl (gFit_rm (by decide) (by decide)) rfl ?_
  refine go_aload_n (q := 14) (gDec iX0_tell_ok 7 rfl) rfl rfl rfl ?_
  refine go_getr (r' := 16) (q := 17) fX0_20 (gDec iX0_tell_ok 8 rfl) rfl (by decide) rfl ?_
  refine go_iload_n (q := 18) (gDec iX0_tell_ok 9 rfl) rfl rfl rfl ?_
  refine go_iload_n (q := 19) (gDec iX0_tell_ok 10 rfl) rfl rfl rfl ?_
  refine go_callS (n2 := 0) (q := 22) kX0_30 ctX0_index (gDec iX0_tell_ok 11 rfl) rfl rfl (Nat.le_of_ble_eq_true rfl) rfl (gFit_rm (by decide) (by decide)) rfl ?_
  refine go_iconst (v := (-1)) (q := 23) (gDec iX0_tell_ok 12 rfl) (by decide) rfl ?_
  refine go_callV (n2 := 0) (q := 26) kX0_34 (ctX7_put (a := 17) rfl rfl (by decide) (by decide) (by omega) (by decide)) (gDec iX0_tell_ok 13 rfl) rfl rfl (by decide) rfl rfl rfl (Nat.le_of_ble_eq_true rfl) rfl (gFit_rm (by decide) (by decide)) rfl ?_
  exact go_return (gDec iX0_tell_ok 14 rfl) rfl rfl rfl (by decide)

set_option maxHeartbeats 4000000 in
set_option maxRecDepth 100000 in
theorem ctX0_setRule {κ : gK} {σ : gST} {g s : Nat} {v df : Int32} (hg : g < 24) (hs : s < 2) : gCt κ mX0_setRule 1 [.ref (κ.2.1 + 13), .int (nI g), .int (nI s), .int v, .int df] σ (.inl none) (gPut (gPut σ 17 (g * 2 + s) v) 19 (g * 2 + s) df) 0 := by
  refine ct_of (by decide +kernel) rfl (Nat.le_of_ble_eq_true rfl) rfl ?_
  refine go_aload_n (q := 1) (gDec iX0_setRule_ok 0 rfl) rfl rfl rfl ?_
  refine go_getr (r' := 16) (q := 4) fX0_20 (gDec iX0_setRule_ok 1 rfl) rfl (by decide) rfl ?_
  refine go_iload_n (q := 5) (gDec iX0_setRule_ok 2 rfl) rfl rfl rfl ?_
  refine go_iload_n (q := 6) (gDec iX0_setRule_ok 3 rfl) rfl rfl rfl ?_
  refine go_callS (n2 := 0) (q := 9) kX0_30 ctX0_index (gDec iX0_setRule_ok 4 rfl) rfl rfl (Nat.le_of_ble_eq_true rfl) rfl (gFit_rm (by decide) (by decide)) rfl ?_
  refine go_iload_n (q := 10) (gDec iX0_setRule_ok 5 rfl) rfl rfl rfl ?_
  refine go_callV (n2 := 0) (q := 13) kX0_34 (ctX7_put (a := 17) rfl rfl (by decide) (by decide) (by omega) (by decide)) (gDec iX0_setRule_ok 6 rfl) rfl rfl (by decide) rfl rfl rfl (Nat.le_of_ble_eq_true rfl) rfl (gFit_rm (by decide) (by decide)) rfl ?_
  refine go_aload_n (q := 14) (gDec iX0_setRule_ok 7 rfl) rfl rfl rfl ?_
  refine go_getr (r' := 18) (q := 17) fX0_23 (gDec iX0_setRule_ok 8 rfl) rfl (by decide) rfl ?_
  refine go_iload_n (q := 18) (gDec iX0_setRule_ok 9 rfl) rfl rfl rfl ?_
  refine go_iload_n (q := 19) (gDec iX0_setRule_ok 10 rfl) rfl rfl rfl ?_
  refine go_callS (n2 := 0) (q := 22) kX0_30 ctX0_index (gDec iX0_setRule_ok 11 rfl) rfl rfl (Nat.le_of_ble_eq_true rfl) rfl (gFit_rm (by decide) (by decide)) rfl ?_
  refine go_iload (q := 24) (gDec iX0_setRule_ok 12 rfl) rfl rfl ?_
  refine go_callV (n2 := 0) (q := 27) kX0_34 (ctX7_put (a := 19) rfl rfl (by decide) (by decide) (by omega) (by decide)) (gDec iX0_setRule_ok 13 rfl) rfl rfl (by decide) rfl rfl rfl (Nat.le_of_ble_eq_true rfl) rfl (gFit_rm (by decide) (by decide)) rfl ?_
  exact go_return (gDec iX0_setRule_ok 14 rfl) rfl rfl rfl (by decide)

/-- what a sidebearing follows, as the rows hold it -/
def lI : Option Nat → Int32
  | none => -1
  | some b => nI b
def gVal (ld : Nat → Option Nat) (df td : Nat → Int32) : Nat → Nat → Int32 → Int32
  | 0, a, s => s + td a
  | f + 1, a, s => match ld a with
    | none => s + td a
    | some b => gVal ld df td f b (s + df a)
def gCnt (ld : Nat → Option Nat) : Nat → Nat → Nat → Nat
  | 0, _, r => r
  | f + 1, a, r => match ld a with
    | none => r
    | some b => gCnt ld f b (r + 1)
def gLd (ld : Nat → Option Nat) (goal : Nat) : Nat → Option Nat → Bool
  | 0, _ => false
  | _ + 1, none => false
  | f + 1, some a => bif Nat.beq a goal then true else gLd ld goal f (ld a)
def bI (b : Bool) : Int32 := bif b then 1 else 0
theorem bI_nz (b : Bool) : narrow .boolean (.int (bI b)) = .int (bI b) := by cases b <;> rfl
theorem lI_some {b : Nat} (h : b < 48) : ¬ lI (some b) = -1 := by
  intro h9
  have h1 : (nI b).toInt = (-1 : Int32).toInt := congrArg Int32.toInt h9
  rw [nI_toInt (by omega)] at h1
  have h2 : ((-1 : Int32)).toInt = -1 := by decide
  omega

set_option maxHeartbeats 4000000 in
set_option maxRecDepth 100000 in
theorem lpX0_valueOf {κ : gK} {σ σ' : gST} {g t : Nat} {o : gO} {ld : Nat → Option Nat} (hl : ∀ a, a < 48 → σ.1 17 a = lI (ld a)) (hb : ∀ a b, a < 48 → ld a = some b → b < 48) (hσ : σ' = σ) : ∀ (m i a : Nat) (s : Int32), i + m = 48 → a < 48 → o = .inl (some (.int (gVal ld (σ.1 19) (σ.1 15) m a s))) → Go κ mX0_valueOf (gRm 1 0) (gZm κ o σ' 0) 12 [(0, .ref (κ.2.1 + 13)), (1, .int (nI g)), (2, .int (nI t)), (3, .int (nI a)), (4, .int s), (5, .int (nI i))] [] σ 0 := by
  intro m
  induction m with
  | zero =>
    intro i a s hi ha ho
    have hi2 : i = 48 := by omega
    subst hi2
    refine go_iload (q := 14) (gDec iX0_valueOf_ok 8 rfl) rfl rfl ?_
    refine go_bipush (v := 48) (q := 16) (gDec iX0_valueOf_ok 9 rfl) (by decide) rfl ?_
    refine go_icmp_ge (t := 59) (q := 19) (gDec iX0_valueOf_ok 10 rfl) (by decide) rfl (fun c16 => ?_) (fun c16 => False.elim (c16 (by decide)))
    refine go_iload (q := 61) (gDec iX0_valueOf_ok 31 rfl) rfl rfl ?_
    refine go_aload_n (q := 62) (gDec iX0_valueOf_ok 32 rfl) rfl rfl rfl ?_
    refine go_getr (r' := 14) (q := 65) fX0_14 (gDec iX0_valueOf_ok 33 rfl) rfl (by decide) rfl ?_
    refine go_iload_n (q := 66) (gDec iX0_valueOf_ok 34 rfl) rfl rfl rfl ?_
    refine go_callV (n2 := 0) (q := 69) kX0_37 (ctX7_get (a := 15) rfl rfl (by decide) (by decide) (by omega) (by decide)) (gDec iX0_valueOf_ok 35 rfl) rfl rfl (by decide) rfl rfl rfl (Nat.le_of_ble_eq_true rfl) rfl (gFit_rm (by decide) (by decide)) rfl ?_
    refine go_iadd (q := 70) (gDec iX0_valueOf_ok 36 rfl) rfl ?_
    exact go_ireturn (gDec iX0_valueOf_ok 37 rfl) rfl rfl ho hσ (by decide)
  | succ m ih =>
    intro i a s hi ha ho
    have hla := hl a ha
    cases hc : ld a with
    | none =>
      rw [hc] at hla
      rw [gVal, hc] at ho
      refine go_iload (q := 14) (gDec iX0_valueOf_ok 8 rfl) rfl rfl ?_
      refine go_bipush (v := 48) (q := 16) (gDec iX0_valueOf_ok 9 rfl) (by decide) rfl ?_
      refine go_icmp_ge (t := 59) (q := 19) (gDec iX0_valueOf_ok 10 rfl) (by decide) rfl (fun c16 => False.elim (nI_ge (a := i) (b := 48) (by omega) (by decide) c16)) (fun c16 => ?_)
      refine go_aload_n (q := 20) (gDec iX0_valueOf_ok 11 rfl) rfl rfl rfl ?_
      refine go_getr (r' := 16) (q := 23) fX0_20 (gDec iX0_valueOf_ok 12 rfl) rfl (by decide) rfl ?_
      refine go_iload_n (q := 24) (gDec iX0_valueOf_ok 13 rfl) rfl rfl rfl ?_
      refine go_callV (n2 := 0) (q := 27) kX0_37 (ctX7_get (a := 17) rfl rfl (by decide) (by decide) (by omega) (by decide)) (gDec iX0_valueOf_ok 14 rfl) rfl rfl (by decide) rfl rfl rfl (Nat.le_of_ble_eq_true rfl) rfl (gFit_rm (by decide) (by decide)) rfl ?_
      refine go_iconst (v := (-1)) (q := 28) (gDec iX0_valueOf_ok 15 rfl) (by decide) rfl ?_
      refine go_icmp_eq (t := 59) (q := 31) (gDec iX0_valueOf_ok 16 rfl) (by decide) rfl (fun c28 => ?_) (fun c28 => False.elim (c28 hla))
      refine go_iload (q := 61) (gDec iX0_valueOf_ok 31 rfl) rfl rfl ?_
      refine go_aload_n (q := 62) (gDec iX0_valueOf_ok 32 rfl) rfl rfl rfl ?_
      refine go_getr (r' := 14) (q := 65) fX0_14 (gDec iX0_valueOf_ok 33 rfl) rfl (by decide) rfl ?_
      refine go_iload_n (q := 66) (gDec iX0_valueOf_ok 34 rfl) rfl rfl rfl ?_
      refine go_callV (n2 := 0) (q := 69) kX0_37 (ctX7_get (a := 15) rfl rfl (by decide) (by decide) (by omega) (by decide)) (gDec iX0_valueOf_ok 35 rfl) rfl rfl (by decide) rfl rfl rfl (Nat.le_of_ble_eq_true rfl) rfl (gFit_rm (by decide) (by decide)) rfl ?_
      refine go_iadd (q := 70) (gDec iX0_valueOf_ok 36 rfl) rfl ?_
      exact go_ireturn (gDec iX0_valueOf_ok 37 rfl) rfl rfl ho hσ (by decide)
    | some b =>
      have hb9 := hb a b ha hc
      rw [hc] at hla
      rw [gVal, hc] at ho
      refine go_iload (q := 14) (gDec iX0_valueOf_ok 8 rfl) rfl rfl ?_
      refine go_bipush (v := 48) (q := 16) (gDec iX0_valueOf_ok 9 rfl) (by decide) rfl ?_
      refine go_icmp_ge (t := 59) (q := 19) (gDec iX0_valueOf_ok 10 rfl) (by decide) rfl (fun c16 => False.elim (nI_ge (a := i) (b := 48) (by omega) (by decide) c16)) (fun c16 => ?_)
      refine go_aload_n (q := 20) (gDec iX0_valueOf_ok 11 rfl) rfl rfl rfl ?_
      refine go_getr (r' := 16) (q := 23) fX0_20 (gDec iX0_valueOf_ok 12 rfl) rfl (by decide) rfl ?_
      refine go_iload_n (q := 24) (gDec iX0_valueOf_ok 13 rfl) rfl rfl rfl ?_
      refine go_callV (n2 := 0) (q := 27) kX0_37 (ctX7_get (a := 17) rfl rfl (by decide) (by decide) (by omega) (by decide)) (gDec iX0_valueOf_ok 14 rfl) rfl rfl (by decide) rfl rfl rfl (Nat.le_of_ble_eq_true rfl) rfl (gFit_rm (by decide) (by decide)) rfl ?_
      refine go_iconst (v := (-1)) (q := 28) (gDec iX0_valueOf_ok 15 rfl) (by decide) rfl ?_
      refine go_icmp_eq (t := 59) (q := 31) (gDec iX0_valueOf_ok 16 rfl) (by decide) rfl (fun c28 => False.elim (lI_some hb9 (hla.symm.trans c28))) (fun c28 => ?_)
      refine go_iload (q := 33) (gDec iX0_valueOf_ok 17 rfl) rfl rfl ?_
      refine go_aload_n (q := 34) (gDec iX0_valueOf_ok 18 rfl) rfl rfl rfl ?_
      refine go_getr (r' := 18) (q := 37) fX0_23 (gDec iX0_valueOf_ok 19 rfl) rfl (by decide) rfl ?_
      refine go_iload_n (q := 38) (gDec iX0_valueOf_ok 20 rfl) rfl rfl rfl ?_
      refine go_callV (n2 := 0) (q := 41) kX0_37 (ctX7_get (a := 19) rfl rfl (by decide) (by decide) (by omega) (by decide)) (gDec iX0_valueOf_ok 21 rfl) rfl rfl (by decide) rfl rfl rfl (Nat.le_of_ble_eq_true rfl) rfl (gFit_rm (by decide) (by decide)) rfl ?_
      refine go_iadd (q := 42) (gDec iX0_valueOf_ok 22 rfl) rfl ?_
      refine go_istore (q := 44) (gDec iX0_valueOf_ok 23 rfl) (by decide) rfl ?_
      refine go_aload_n (q := 45) (gDec iX0_valueOf_ok 24 rfl) rfl rfl rfl ?_
      refine go_getr (r' := 16) (q := 48) fX0_20 (gDec iX0_valueOf_ok 25 rfl) rfl (by decide) rfl ?_
      refine go_iload_n (q := 49) (gDec iX0_valueOf_ok 26 rfl) rfl rfl rfl ?_
      refine go_callV (n2 := 0) (q := 52) kX0_37 (ctX7_get (a := 17) rfl rfl (by decide) (by decide) (by omega) (by decide)) (gDec iX0_valueOf_ok 27 rfl) rfl rfl (by decide) rfl rfl rfl (Nat.le_of_ble_eq_true rfl) rfl (gFit_rm (by decide) (by decide)) rfl ?_
      rw [hla]
      refine go_istore_n (q := 53) (gDec iX0_valueOf_ok 28 rfl) rfl (by decide) rfl ?_
      refine go_iinc (v := nI (i + 1)) (q := 56) (gDec iX0_valueOf_ok 29 rfl) rfl (nI_1 i) (by decide) rfl ?_
      refine go_goto (t := 12) (gDec iX0_valueOf_ok 30 rfl) (by decide) ?_
      refine go_sub (L' := [(0, .ref (κ.2.1 + 13)), (1, .int (nI g)), (2, .int (nI t)), (3, .int (nI b)), (4, .int (s + σ.1 19 a)), (5, .int (nI (i + 1)))]) ⟨rfl, rfl, rfl, rfl, rfl, rfl, trivial⟩ ?_
      exact ih (i + 1) b (s + σ.1 19 a) (by omega) hb9 ho

set_option maxHeartbeats 4000000 in
set_option maxRecDepth 100000 in
theorem ctX0_valueOf {κ : gK} {σ : gST} {g t : Nat} {ld : Nat → Option Nat} (hg : g < 24) (ht : t < 2) (hl : ∀ a, a < 48 → σ.1 17 a = lI (ld a)) (hb : ∀ a b, a < 48 → ld a = some b → b < 48) : gCt κ mX0_valueOf 1 [.ref (κ.2.1 + 13), .int (nI g), .int (nI t)] σ (.inl (some (.int (gVal ld (σ.1 19) (σ.1 15) 48 (g * 2 + t) 0)))) σ 0 := by
  refine ct_of (by decide +kernel) rfl (Nat.le_of_ble_eq_true rfl) rfl ?_
  refine go_iload_n (q := 1) (gDec iX0_valueOf_ok 0 rfl) rfl rfl rfl ?_
  refine go_iload_n (q := 2) (gDec iX0_valueOf_ok 1 rfl) rfl rfl rfl ?_
  refine go_callS (n2 := 0) (q := 5) kX0_30 ctX0_index (gDec iX0_valueOf_ok 2 rfl) rfl rfl (Nat.le_of_ble_eq_true rfl) rfl (gFit_rm (by decide) (by decide)) rfl ?_
  refine go_istore_n (q := 6) (gDec iX0_valueOf_ok 3 rfl) rfl (by decide) rfl ?_
  refine go_iconst (v := 0) (q := 7) (gDec iX0_valueOf_ok 4 rfl) (by decide) rfl ?_
  refine go_istore (q := 9) (gDec iX0_valueOf_ok 5 rfl) (by decide) rfl ?_
  refine go_iconst (v := 0) (q := 10) (gDec iX0_valueOf_ok 6 rfl) (by decide) rfl ?_
  refine go_istore (q := 12) (gDec iX0_valueOf_ok 7 rfl) (by decide) rfl ?_
  refine go_sub (L' := [(0, .ref (κ.2.1 + 13)), (1, .int (nI g)), (2, .int (nI t)), (3, .int (nI (g * 2 + t))), (4, .int 0), (5, .int (nI 0))]) ⟨rfl, rfl, rfl, rfl, rfl, rfl, trivial⟩ ?_
  exact lpX0_valueOf hl hb rfl 48 0 (g * 2 + t) 0 rfl (by omega) rfl

set_option maxHeartbeats 4000000 in
set_option maxRecDepth 100000 in
theorem lpX0_ruleCount {κ : gK} {σ σ' : gST} {g t : Nat} {o : gO} {ld : Nat → Option Nat} (hl : ∀ a, a < 48 → σ.1 17 a = lI (ld a)) (hb : ∀ a b, a < 48 → ld a = some b → b < 48) (hσ : σ' = σ) : ∀ (m i a : Nat), i + m = 48 → a < 48 → o = .inl (some (.int (nI (gCnt ld m a i)))) → Go κ mX0_ruleCount (gRm 1 0) (gZm κ o σ' 0) 9 [(0, .ref (κ.2.1 + 13)), (1, .int (nI g)), (2, .int (nI t)), (3, .int (nI a)), (4, .int (nI i))] [] σ 0 := by
  intro m
  induction m with
  | zero =>
    intro i a hi ha ho
    have hi2 : i = 48 := by omega
    subst hi2
    refine go_iload (q := 11) (gDec iX0_ruleCount_ok 6 rfl) rfl rfl ?_
    refine go_bipush (v := 48) (q := 13) (gDec iX0_ruleCount_ok 7 rfl) (by decide) rfl ?_
    refine go_icmp_ge (t := 43) (q := 16) (gDec iX0_ruleCount_ok 8 rfl) (by decide) rfl (fun c13 => ?_) (fun c13 => False.elim (c13 (by decide)))
    refine go_iload (q := 45) (gDec iX0_ruleCount_ok 22 rfl) rfl rfl ?_
    exact go_ireturn (gDec iX0_ruleCount_ok 23 rfl) rfl rfl ho hσ (by decide)
  | succ m ih =>
    intro i a hi ha ho
    have hla := hl a ha
    cases hc : ld a with
    | none =>
      rw [hc] at hla
      rw [gCnt, hc] at ho
      refine go_iload (q := 11) (gDec iX0_ruleCount_ok 6 rfl) rfl rfl ?_
      refine go_bipush (v := 48) (q := 13) (gDec iX0_ruleCount_ok 7 rfl) (by decide) rfl ?_
      refine go_icmp_ge (t := 43) (q := 16) (gDec iX0_ruleCount_ok 8 rfl) (by decide) rfl (fun c13 => False.elim (nI_ge (a := i) (b := 48) (by omega) (by decide) c13)) (fun c13 => ?_)
      refine go_aload_n (q := 17) (gDec iX0_ruleCount_ok 9 rfl) rfl rfl rfl ?_
      refine go_getr (r' := 16) (q := 20) fX0_20 (gDec iX0_ruleCount_ok 10 rfl) rfl (by decide) rfl ?_
      refine go_iload_n (q := 21) (gDec iX0_ruleCount_ok 11 rfl) rfl rfl rfl ?_
      refine go_callV (n2 := 0) (q := 24) kX0_37 (ctX7_get (a := 17) rfl rfl (by decide) (by decide) (by omega) (by decide)) (gDec iX0_ruleCount_ok 12 rfl) rfl rfl (by decide) rfl rfl rfl (Nat.le_of_ble_eq_true rfl) rfl (gFit_rm (by decide) (by decide)) rfl ?_
      refine go_iconst (v := (-1)) (q := 25) (gDec iX0_ruleCount_ok 13 rfl) (by decide) rfl ?_
      refine go_icmp_eq (t := 43) (q := 28) (gDec iX0_ruleCount_ok 14 rfl) (by decide) rfl (fun c25 => ?_) (fun c25 => False.elim (c25 hla))
      refine go_iload (q := 45) (gDec iX0_ruleCount_ok 22 rfl) rfl rfl ?_
      exact go_ireturn (gDec iX0_ruleCount_ok 23 rfl) rfl rfl ho hσ (by decide)
    | some b =>
      have hb9 := hb a b ha hc
      rw [hc] at hla
      rw [gCnt, hc] at ho
      refine go_iload (q := 11) (gDec iX0_ruleCount_ok 6 rfl) rfl rfl ?_
      refine go_bipush (v := 48) (q := 13) (gDec iX0_ruleCount_ok 7 rfl) (by decide) rfl ?_
      refine go_icmp_ge (t := 43) (q := 16) (gDec iX0_ruleCount_ok 8 rfl) (by decide) rfl (fun c13 => False.elim (nI_ge (a := i) (b := 48) (by omega) (by decide) c13)) (fun c13 => ?_)
      refine go_aload_n (q := 17) (gDec iX0_ruleCount_ok 9 rfl) rfl rfl rfl ?_
      refine go_getr (r' := 16) (q := 20) fX0_20 (gDec iX0_ruleCount_ok 10 rfl) rfl (by decide) rfl ?_
      refine go_iload_n (q := 21) (gDec iX0_ruleCount_ok 11 rfl) rfl rfl rfl ?_
      refine go_callV (n2 := 0) (q := 24) kX0_37 (ctX7_get (a := 17) rfl rfl (by decide) (by decide) (by omega) (by decide)) (gDec iX0_ruleCount_ok 12 rfl) rfl rfl (by decide) rfl rfl rfl (Nat.le_of_ble_eq_true rfl) rfl (gFit_rm (by decide) (by decide)) rfl ?_
      refine go_iconst (v := (-1)) (q := 25) (gDec iX0_ruleCount_ok 13 rfl) (by decide) rfl ?_
      refine go_icmp_eq (t := 43) (q := 28) (gDec iX0_ruleCount_ok 14 rfl) (by decide) rfl (fun c25 => False.elim (lI_some hb9 (hla.symm.trans c25))) (fun c25 => ?_)
      refine go_aload_n (q := 29) (gDec iX0_ruleCount_ok 15 rfl) rfl rfl rfl ?_
      refine go_getr (r' := 16) (q := 32) fX0_20 (gDec iX0_ruleCount_ok 16 rfl) rfl (by decide) rfl ?_
      refine go_iload_n (q := 33) (gDec iX0_ruleCount_ok 17 rfl) rfl rfl rfl ?_
      refine go_callV (n2 := 0) (q := 36) kX0_37 (ctX7_get (a := 17) rfl rfl (by decide) (by decide) (by omega) (by decide)) (gDec iX0_ruleCount_ok 18 rfl) rfl rfl (by decide) rfl rfl rfl (Nat.le_of_ble_eq_true rfl) rfl (gFit_rm (by decide) (by decide)) rfl ?_
      rw [hla]
      refine go_istore_n (q := 37) (gDec iX0_ruleCount_ok 19 rfl) rfl (by decide) rfl ?_
      refine go_iinc (v := nI (i + 1)) (q := 40) (gDec iX0_ruleCount_ok 20 rfl) rfl (nI_1 i) (by decide) rfl ?_
      refine go_goto (t := 9) (gDec iX0_ruleCount_ok 21 rfl) (by decide) ?_
      refine go_sub (L' := [(0, .ref (κ.2.1 + 13)), (1, .int (nI g)), (2, .int (nI t)), (3, .int (nI b)), (4, .int (nI (i + 1)))]) ⟨rfl, rfl, rfl, rfl, rfl, trivial⟩ ?_
      exact ih (i + 1) b (by omega) hb9 ho

set_option maxHeartbeats 4000000 in
set_option maxRecDepth 100000 in
theorem ctX0_ruleCount {κ : gK} {σ : gST} {g t : Nat} {ld : Nat → Option Nat} (hg : g < 24) (ht : t < 2) (hl : ∀ a, a < 48 → σ.1 17 a = lI (ld a)) (hb : ∀ a b, a < 48 → ld a = some b → b < 48) : gCt κ mX0_ruleCount 1 [.ref (κ.2.1 + 13), .int (nI g), .int (nI t)] σ (.inl (some (.int (nI (gCnt ld 48 (g * 2 + t) 0))))) σ 0 := by
  refine ct_of (by decide +kernel) rfl (Nat.le_of_ble_eq_true rfl) rfl ?_
  refine go_iload_n (q := 1) (gDec iX0_ruleCount_ok 0 rfl) rfl rfl rfl ?_
  refine go_iload_n (q := 2) (gDec iX0_ruleCount_ok 1 rfl) rfl rfl rfl ?_
  refine go_callS (n2 := 0) (q := 5) kX0_30 ctX0_index (gDec iX0_ruleCount_ok 2 rfl) rfl rfl (Nat.le_of_ble_eq_true rfl) rfl (gFit_rm (by decide) (by decide)) rfl ?_
  refine go_istore_n (q := 6) (gDec iX0_ruleCount_ok 3 rfl) rfl (by decide) rfl ?_
  refine go_iconst (v := 0) (q := 7) (gDec iX0_ruleCount_ok 4 rfl) (by decide) rfl ?_
  refine go_istore (q := 9) (gDec iX0_ruleCount_ok 5 rfl) (by decide) rfl ?_
  refine go_sub (L' := [(0, .ref (κ.2.1 + 13)), (1, .int (nI g)), (2, .int (nI t)), (3, .int (nI (g * 2 + t))), (4, .int (nI 0))]) ⟨rfl, rfl, rfl, rfl, rfl, trivial⟩ ?_
  exact lpX0_ruleCount hl hb rfl 48 0 (g * 2 + t) rfl (by omega) rfl

theorem nI_div2 {b : Nat} (h : b < 48) : nI b / 2 = nI (b / 2) := by
  have h1 : ∀ b, b < 48 → nI b / 2 = nI (b / 2) := by decide +kernel
  exact h1 b h
theorem nI_rem2 {b : Nat} (h : b < 48) : nI b - nI b / 2 * 2 = nI (b % 2) := by
  have h1 : ∀ b, b < 48 → nI b - nI b / 2 * 2 = nI (b % 2) := by decide +kernel
  exact h1 b h

set_option maxHeartbeats 4000000 in
set_option maxRecDepth 100000 in
theorem ctX0_leaderGlyph {κ : gK} {σ : gST} {g t : Nat} {ld : Nat → Option Nat} (hg : g < 24) (ht : t < 2) (hl : ∀ a, a < 48 → σ.1 17 a = lI (ld a)) (hb : ∀ a b, a < 48 → ld a = some b → b < 48) : gCt κ mX0_leaderGlyph 1 [.ref (κ.2.1 + 13), .int (nI g), .int (nI t)] σ (.inl (some (.int (lI ((ld (g * 2 + t)).map (fun b => b / 2)))))) σ 0 := by
  have hla := hl (g * 2 + t) (by omega)
  refine ct_of (by decide +kernel) rfl (Nat.le_of_ble_eq_true rfl) rfl ?_
  cases hc : ld (g * 2 + t) with
  | none =>
    rw [hc] at hla
    refine go_aload_n (q := 1) (gDec iX0_leaderGlyph_ok 0 rfl) rfl rfl rfl ?_
    refine go_getr (r' := 16) (q := 4) fX0_20 (gDec iX0_leaderGlyph_ok 1 rfl) rfl (by decide) rfl ?_
    refine go_iload_n (q := 5) (gDec iX0_leaderGlyph_ok 2 rfl) rfl rfl rfl ?_
    refine go_iload_n (q := 6) (gDec iX0_leaderGlyph_ok 3 rfl) rfl rfl rfl ?_
    refine go_callS (n2 := 0) (q := 9) kX0_30 ctX0_index (gDec iX0_leaderGlyph_ok 4 rfl) rfl rfl (Nat.le_of_ble_eq_true rfl) rfl (gFit_rm (by decide) (by decide)) rfl ?_
    refine go_callV (n2 := 0) (q := 12) kX0_37 (ctX7_get (a := 17) rfl rfl (by decide) (by decide) (by omega) (by decide)) (gDec iX0_leaderGlyph_ok 5 rfl) rfl rfl (by decide) rfl rfl rfl (Nat.le_of_ble_eq_true rfl) rfl (gFit_rm (by decide) (by decide)) rfl ?_
    refine go_istore_n (q := 13) (gDec iX0_leaderGlyph_ok 6 rfl) rfl (by decide) rfl ?_
    refine go_iload_n (q := 14) (gDec iX0_leaderGlyph_ok 7 rfl) rfl rfl rfl ?_
    refine go_iconst (v := (-1)) (q := 15) (gDec iX0_leaderGlyph_ok 8 rfl) (by decide) rfl ?_
    refine go_icmp_ne (t := 22) (q := 18) (gDec iX0_leaderGlyph_ok 9 rfl) (by decide) rfl (fun c15 => False.elim (c15 hla)) (fun c15 => ?_)
    refine go_iconst (v := (-1)) (q := 19) (gDec iX0_leaderGlyph_ok 10 rfl) (by decide) rfl ?_
    refine go_goto (t := 25) (gDec iX0_leaderGlyph_ok 11 rfl) (by decide) ?_
    exact go_ireturn (gDec iX0_leaderGlyph_ok 15 rfl) rfl rfl rfl rfl (by decide)
  | some b =>
    have hb9 := hb _ b (by omega) hc
    rw [hc] at hla
    refine go_aload_n (q := 1) (gDec iX0_leaderGlyph_ok 0 rfl) rfl rfl rfl ?_
    refine go_getr (r' := 16) (q := 4) fX0_20 (gDec iX0_leaderGlyph_ok 1 rfl) rfl (by decide) rfl ?_
    refine go_iload_n (q := 5) (gDec iX0_leaderGlyph_ok 2 rfl) rfl rfl rfl ?_
    refine go_iload_n (q := 6) (gDec iX0_leaderGlyph_ok 3 rfl) rfl rfl rfl ?_
    refine go_callS (n2 := 0) (q := 9) kX0_30 ctX0_index (gDec iX0_leaderGlyph_ok 4 rfl) rfl rfl (Nat.le_of_ble_eq_true rfl) rfl (gFit_rm (by decide) (by decide)) rfl ?_
    refine go_callV (n2 := 0) (q := 12) kX0_37 (ctX7_get (a := 17) rfl rfl (by decide) (by decide) (by omega) (by decide)) (gDec iX0_leaderGlyph_ok 5 rfl) rfl rfl (by decide) rfl rfl rfl (Nat.le_of_ble_eq_true rfl) rfl (gFit_rm (by decide) (by decide)) rfl ?_
    refine go_istore_n (q := 13) (gDec iX0_leaderGlyph_ok 6 rfl) rfl (by decide) rfl ?_
    refine go_iload_n (q := 14) (gDec iX0_leaderGlyph_ok 7 rfl) rfl rfl rfl ?_
    refine go_iconst (v := (-1)) (q := 15) (gDec iX0_leaderGlyph_ok 8 rfl) (by decide) rfl ?_
    refine go_icmp_ne (t := 22) (q := 18) (gDec iX0_leaderGlyph_ok 9 rfl) (by decide) rfl (fun c15 => ?_) (fun c15 => False.elim (lI_some hb9 (hla.symm.trans c15)))
    refine go_iload_n (q := 23) (gDec iX0_leaderGlyph_ok 12 rfl) rfl rfl rfl ?_
    refine go_iconst (v := 2) (q := 24) (gDec iX0_leaderGlyph_ok 13 rfl) (by decide) rfl ?_
    refine go_idiv (q := 25) (gDec iX0_leaderGlyph_ok 14 rfl) (by decide) rfl ?_
    exact go_ireturn (gDec iX0_leaderGlyph_ok 15 rfl) rfl rfl (by rw [hla]; show _ = Sum.inl (some (Value.int _)); rw [show lI (some b) = nI b from rfl, nI_div2 hb9]; rfl) rfl (by decide)

set_option maxHeartbeats 4000000 in
set_option maxRecDepth 100000 in
theorem ctX0_leaderSide {κ : gK} {σ : gST} {g t : Nat} {ld : Nat → Option Nat} (hg : g < 24) (ht : t < 2) (hl : ∀ a, a < 48 → σ.1 17 a = lI (ld a)) (hb : ∀ a b, a < 48 → ld a = some b → b < 48) : gCt κ mX0_leaderSide 1 [.ref (κ.2.1 + 13), .int (nI g), .int (nI t)] σ (.inl (some (.int (lI ((ld (g * 2 + t)).map (fun b => b % 2)))))) σ 0 := by
  have hla := hl (g * 2 + t) (by omega)
  refine ct_of (by decide +kernel) rfl (Nat.le_of_ble_eq_true rfl) rfl ?_
  cases hc : ld (g * 2 + t) with
  | none =>
    rw [hc] at hla
    refine go_aload_n (q := 1) (gDec iX0_leaderSide_ok 0 rfl) rfl rfl rfl ?_
    refine go_getr (r' := 16) (q := 4) fX0_20 (gDec iX0_leaderSide_ok 1 rfl) rfl (by decide) rfl ?_
    refine go_iload_n (q := 5) (gDec iX0_leaderSide_ok 2 rfl) rfl rfl rfl ?_
    refine go_iload_n (q := 6) (gDec iX0_leaderSide_ok 3 rfl) rfl rfl rfl ?_
    refine go_callS (n2 := 0) (q := 9) kX0_30 ctX0_index (gDec iX0_leaderSide_ok 4 rfl) rfl rfl (Nat.le_of_ble_eq_true rfl) rfl (gFit_rm (by decide) (by decide)) rfl ?_
    refine go_callV (n2 := 0) (q := 12) kX0_37 (ctX7_get (a := 17) rfl rfl (by decide) (by decide) (by omega) (by decide)) (gDec iX0_leaderSide_ok 5 rfl) rfl rfl (by decide) rfl rfl rfl (Nat.le_of_ble_eq_true rfl) rfl (gFit_rm (by decide) (by decide)) rfl ?_
    refine go_istore_n (q := 13) (gDec iX0_leaderSide_ok 6 rfl) rfl (by decide) rfl ?_
    refine go_iload_n (q := 14) (gDec iX0_leaderSide_ok 7 rfl) rfl rfl rfl ?_
    refine go_iconst (v := (-1)) (q := 15) (gDec iX0_leaderSide_ok 8 rfl) (by decide) rfl ?_
    refine go_icmp_ne (t := 22) (q := 18) (gDec iX0_leaderSide_ok 9 rfl) (by decide) rfl (fun c15 => False.elim (c15 hla)) (fun c15 => ?_)
    refine go_iconst (v := (-1)) (q := 19) (gDec iX0_leaderSide_ok 10 rfl) (by decide) rfl ?_
    refine go_goto (t := 25) (gDec iX0_leaderSide_ok 11 rfl) (by decide) ?_
    exact go_ireturn (gDec iX0_leaderSide_ok 15 rfl) rfl rfl rfl rfl (by decide)
  | some b =>
    have hb9 := hb _ b (by omega) hc
    rw [hc] at hla
    refine go_aload_n (q := 1) (gDec iX0_leaderSide_ok 0 rfl) rfl rfl rfl ?_
    refine go_getr (r' := 16) (q := 4) fX0_20 (gDec iX0_leaderSide_ok 1 rfl) rfl (by decide) rfl ?_
    refine go_iload_n (q := 5) (gDec iX0_leaderSide_ok 2 rfl) rfl rfl rfl ?_
    refine go_iload_n (q := 6) (gDec iX0_leaderSide_ok 3 rfl) rfl rfl rfl ?_
    refine go_callS (n2 := 0) (q := 9) kX0_30 ctX0_index (gDec iX0_leaderSide_ok 4 rfl) rfl rfl (Nat.le_of_ble_eq_true rfl) rfl (gFit_rm (by decide) (by decide)) rfl ?_
    refine go_callV (n2 := 0) (q := 12) kX0_37 (ctX7_get (a := 17) rfl rfl (by decide) (by decide) (by omega) (by decide)) (gDec iX0_leaderSide_ok 5 rfl) rfl rfl (by decide) rfl rfl rfl (Nat.le_of_ble_eq_true rfl) rfl (gFit_rm (by decide) (by decide)) rfl ?_
    refine go_istore_n (q := 13) (gDec iX0_leaderSide_ok 6 rfl) rfl (by decide) rfl ?_
    refine go_iload_n (q := 14) (gDec iX0_leaderSide_ok 7 rfl) rfl rfl rfl ?_
    refine go_iconst (v := (-1)) (q := 15) (gDec iX0_leaderSide_ok 8 rfl) (by decide) rfl ?_
    refine go_icmp_ne (t := 22) (q := 18) (gDec iX0_leaderSide_ok 9 rfl) (by decide) rfl (fun c15 => ?_) (fun c15 => False.elim (lI_some hb9 (hla.symm.trans c15)))
    refine go_iload_n (q := 23) (gDec iX0_leaderSide_ok 12 rfl) rfl rfl rfl ?_
    refine go_iconst (v := 2) (q := 24) (gDec iX0_leaderSide_ok 13 rfl) (by decide) rfl ?_
    refine go_irem (q := 25) (gDec iX0_leaderSide_ok 14 rfl) (by decide) rfl ?_
    exact go_ireturn (gDec iX0_leaderSide_ok 15 rfl) rfl rfl (by rw [hla]; show _ = Sum.inl (some (Value.int _)); rw [show lI (some b) = nI b from rfl, nI_rem2 hb9]; rfl) rfl (by decide)

set_option maxHeartbeats 4000000 in
set_option maxRecDepth 100000 in
theorem lpX0_leadsTo {κ : gK} {σ σ' : gST} {f t : Nat} {o : gO} {ld : Nat → Option Nat} (hl : ∀ a, a < 48 → σ.1 17 a = lI (ld a)) (hb : ∀ a b, a < 48 → ld a = some b → b < 48) (ht : t < 48) (hσ : σ' = σ) : ∀ (m i : Nat) (a : Option Nat), i + m = 49 → (∀ b, a = some b → b < 48) → o = .inl (some (.int (bI (gLd ld t m a)))) → Go κ mX0_leadsTo (gRm 1 0) (gZm κ o σ' 0) 5 [(0, .ref (κ.2.1 + 13)), (1, .int (nI f)), (2, .int (nI t)), (3, .int (lI a)), (4, .int (nI i))] [] σ 0 := by
  intro m
  induction m with
  | zero =>
    intro i a hi ha ho
    have hi2 : i = 49 := by omega
    subst hi2
    refine go_iload (q := 7) (gDec iX0_leadsTo_ok 4 rfl) rfl rfl ?_
    refine go_bipush (v := 48) (q := 9) (gDec iX0_leadsTo_ok 5 rfl) (by decide) rfl ?_
    refine go_icmp_gt (t := 39) (q := 12) (gDec iX0_leadsTo_ok 6 rfl) (by decide) rfl (fun c9 => ?_) (fun c9 => False.elim (c9 (by decide)))
    refine go_iconst (v := 0) (q := 40) (gDec iX0_leadsTo_ok 22 rfl) (by decide) rfl ?_
    exact go_ireturn (gDec iX0_leadsTo_ok 23 rfl) rfl rfl ho hσ (by decide)
  | succ m ih =>
    intro i a hi ha ho
    cases a with
    | none =>
      refine go_iload (q := 7) (gDec iX0_leadsTo_ok 4 rfl) rfl rfl ?_
      refine go_bipush (v := 48) (q := 9) (gDec iX0_leadsTo_ok 5 rfl) (by decide) rfl ?_
      refine go_icmp_gt (t := 39) (q := 12) (gDec iX0_leadsTo_ok 6 rfl) (by decide) rfl (fun c9 => False.elim (absurd c9 (nI_nlt (a := 48) (b := i) (by omega) (by decide)))) (fun c9 => ?_)
      refine go_iload_n (q := 13) (gDec iX0_leadsTo_ok 7 rfl) rfl rfl rfl ?_
      refine go_iconst (v := (-1)) (q := 14) (gDec iX0_leadsTo_ok 8 rfl) (by decide) rfl ?_
      refine go_icmp_eq (t := 39) (q := 17) (gDec iX0_leadsTo_ok 9 rfl) (by decide) rfl (fun c14 => ?_) (fun c14 => False.elim (c14 rfl))
      refine go_iconst (v := 0) (q := 40) (gDec iX0_leadsTo_ok 22 rfl) (by decide) rfl ?_
      exact go_ireturn (gDec iX0_leadsTo_ok 23 rfl) rfl rfl ho hσ (by decide)
    | some b =>
      have hb9 := ha b rfl
      have hla := hl b hb9
      by_cases hbt : b = t
      · have ho2 : o = .inl (some (.int 1)) := by rw [ho, gLd, hbt, show Nat.beq t t = true from Nat.beq_refl t]; rfl
        refine go_iload (q := 7) (gDec iX0_leadsTo_ok 4 rfl) rfl rfl ?_
        refine go_bipush (v := 48) (q := 9) (gDec iX0_leadsTo_ok 5 rfl) (by decide) rfl ?_
        refine go_icmp_gt (t := 39) (q := 12) (gDec iX0_leadsTo_ok 6 rfl) (by decide) rfl (fun c9 => False.elim (absurd c9 (nI_nlt (a := 48) (b := i) (by omega) (by decide)))) (fun c9 => ?_)
        refine go_iload_n (q := 13) (gDec iX0_leadsTo_ok 7 rfl) rfl rfl rfl ?_
        refine go_iconst (v := (-1)) (q := 14) (gDec iX0_leadsTo_ok 8 rfl) (by decide) rfl ?_
        refine go_icmp_eq (t := 39) (q := 17) (gDec iX0_leadsTo_ok 9 rfl) (by decide) rfl (fun c14 => False.elim (lI_some hb9 c14)) (fun c14 => ?_)
        refine go_iload_n (q := 18) (gDec iX0_leadsTo_ok 10 rfl) rfl rfl rfl ?_
        refine go_iload_n (q := 19) (gDec iX0_leadsTo_ok 11 rfl) rfl rfl rfl ?_
        refine go_icmp_ne (t := 24) (q := 22) (gDec iX0_leadsTo_ok 12 rfl) (by decide) rfl (fun c19 => False.elim (c19 (congrArg nI hbt))) (fun c19 => ?_)
        refine go_iconst (v := 1) (q := 23) (gDec iX0_leadsTo_ok 13 rfl) (by decide) rfl ?_
        exact go_ireturn (gDec iX0_leadsTo_ok 14 rfl) rfl rfl ho2 hσ (by decide)
      · have hbt2 : Nat.beq b t = false := by
          cases h9 : Nat.beq b t with
          | true => exact absurd (Nat.eq_of_beq_eq_true h9) hbt
          | false => rfl
        rw [gLd, hbt2] at ho
        refine go_iload (q := 7) (gDec iX0_leadsTo_ok 4 rfl) rfl rfl ?_
        refine go_bipush (v := 48) (q := 9) (gDec iX0_leadsTo_ok 5 rfl) (by decide) rfl ?_
        refine go_icmp_gt (t := 39) (q := 12) (gDec iX0_leadsTo_ok 6 rfl) (by decide) rfl (fun c9 => False.elim (absurd c9 (nI_nlt (a := 48) (b := i) (by omega) (by decide)))) (fun c9 => ?_)
        refine go_iload_n (q := 13) (gDec iX0_leadsTo_ok 7 rfl) rfl rfl rfl ?_
        refine go_iconst (v := (-1)) (q := 14) (gDec iX0_leadsTo_ok 8 rfl) (by decide) rfl ?_
        refine go_icmp_eq (t := 39) (q := 17) (gDec iX0_leadsTo_ok 9 rfl) (by decide) rfl (fun c14 => False.elim (lI_some hb9 c14)) (fun c14 => ?_)
        refine go_iload_n (q := 18) (gDec iX0_leadsTo_ok 10 rfl) rfl rfl rfl ?_
        refine go_iload_n (q := 19) (gDec iX0_leadsTo_ok 11 rfl) rfl rfl rfl ?_
        refine go_icmp_ne (t := 24) (q := 22) (gDec iX0_leadsTo_ok 12 rfl) (by decide) rfl (fun c19 => ?_) (fun c19 => False.elim (hbt ((nI_eq (by omega) (by omega)).mp c19)))
        refine go_aload_n (q := 25) (gDec iX0_leadsTo_ok 15 rfl) rfl rfl rfl ?_
        refine go_getr (r' := 16) (q := 28) fX0_20 (gDec iX0_leadsTo_ok 16 rfl) rfl (by decide) rfl ?_
        refine go_iload_n (q := 29) (gDec iX0_leadsTo_ok 17 rfl) rfl rfl rfl ?_
        refine go_st (st' := [.int (nI b), .ref (κ.2.1 + 16)]) rfl ?_
        refine go_callV (n2 := 0) (q := 32) kX0_37 (ctX7_get (a := 17) rfl rfl (by decide) (by decide) (by omega) (by decide)) (gDec iX0_leadsTo_ok 18 rfl) rfl rfl (by decide) rfl rfl rfl (Nat.le_of_ble_eq_true rfl) rfl (gFit_rm (by decide) (by decide)) rfl ?_
        rw [hla]
        refine go_istore_n (q := 33) (gDec iX0_leadsTo_ok 19 rfl) rfl (by decide) rfl ?_
        refine go_iinc (v := nI (i + 1)) (q := 36) (gDec iX0_leadsTo_ok 20 rfl) rfl (nI_1 i) (by decide) rfl ?_
        refine go_goto (t := 5) (gDec iX0_leadsTo_ok 21 rfl) (by decide) ?_
        refine go_sub (L' := [(0, .ref (κ.2.1 + 13)), (1, .int (nI f)), (2, .int (nI t)), (3, .int (lI (ld b))), (4, .int (nI (i + 1)))]) ⟨rfl, rfl, rfl, rfl, rfl, trivial⟩ ?_
        exact ih (i + 1) (ld b) (by omega) (fun b2 h2 => hb b b2 hb9 h2) ho

set_option maxHeartbeats 4000000 in
set_option maxRecDepth 100000 in
theorem ctX0_leadsTo {κ : gK} {σ : gST} {f t : Nat} {ld : Nat → Option Nat} (hf : f < 48) (ht : t < 48) (hl : ∀ a, a < 48 → σ.1 17 a = lI (ld a)) (hb : ∀ a b, a < 48 → ld a = some b → b < 48) : gCt κ mX0_leadsTo 1 [.ref (κ.2.1 + 13), .int (nI f), .int (nI t)] σ (.inl (some (.int (bI (gLd ld t 49 (some f)))))) σ 0 := by
  refine ct_of (by decide +kernel) rfl (Nat.le_of_ble_eq_true rfl) rfl ?_
  refine go_iload_n (q := 1) (gDec iX0_leadsTo_ok 0 rfl) rfl rfl rfl ?_
  refine go_istore_n (q := 2) (gDec iX0_leadsTo_ok 1 rfl) rfl (by decide) rfl ?_
  refine go_iconst (v := 0) (q := 3) (gDec iX0_leadsTo_ok 2 rfl) (by decide) rfl ?_
  refine go_istore (q := 5) (gDec iX0_leadsTo_ok 3 rfl) (by decide) rfl ?_
  refine go_sub (L' := [(0, .ref (κ.2.1 + 13)), (1, .int (nI f)), (2, .int (nI t)), (3, .int (lI (some f))), (4, .int (nI 0))]) ⟨rfl, rfl, rfl, rfl, rfl, trivial⟩ ?_
  exact lpX0_leadsTo hl hb ht rfl 49 0 (some f) rfl (fun b h => by cases h; exact hf) rfl

set_option maxHeartbeats 4000000 in
set_option maxRecDepth 100000 in
theorem lpX0_followerCount {κ : gK} {Z : gZ} {σ : gST} {g t G : Nat} {ld : Nat → Option Nat} (hG : G < 48) (hl : ∀ a, a < 48 → σ.1 17 a = lI (ld a)) (hb : ∀ a b, a < 48 → ld a = some b → b < 48) : ∀ (m i : Nat) (a : Int32), i + m = 48 → Go κ mX0_followerCount (gRm 2 0) Z 44 [(0, .ref (κ.2.1 + 13)), (1, .int (nI g)), (2, .int (nI t)), (3, .int (nI G)), (4, .int (gLoop (fun at_ a => if at_ = G then a else a + bI (gLd ld G 49 (some at_))) i m a)), (5, .int (nI 48))] [] σ 0 → Go κ mX0_followerCount (gRm 2 0) Z 12 [(0, .ref (κ.2.1 + 13)), (1, .int (nI g)), (2, .int (nI t)), (3, .int (nI G)), (4, .int a), (5, .int (nI i))] [] σ 0 := by
  intro m
  induction m with
  | zero =>
    intro i a hi h
    have hiN : 48 = i := by omega
    rw [hiN] at h
    refine go_iload (q := 14) (gDec iX0_followerCount_ok 8 rfl) rfl rfl ?_
    refine go_bipush (v := 48) (q := 16) (gDec iX0_followerCount_ok 9 rfl) (by decide) rfl ?_
    refine go_icmp_ge (t := 44) (q := 19) (gDec iX0_followerCount_ok 10 rfl) (by decide) rfl (fun c16 => ?_) (fun c16 => False.elim (c16 (nI_le (a := 48) (b := i) (by omega) (by omega))))
    refine go_sub (L' := [(0, .ref (κ.2.1 + 13)), (1, .int (nI g)), (2, .int (nI t)), (3, .int (nI G)), (4, .int a), (5, .int (nI i))]) ⟨rfl, rfl, rfl, rfl, rfl, rfl, trivial⟩ ?_
    exact h
  | succ m ih =>
    intro i a hi h
    refine go_iload (q := 14) (gDec iX0_followerCount_ok 8 rfl) rfl rfl ?_
    refine go_bipush (v := 48) (q := 16) (gDec iX0_followerCount_ok 9 rfl) (by decide) rfl ?_
    refine go_icmp_ge (t := 44) (q := 19) (gDec iX0_followerCount_ok 10 rfl) (by decide) rfl (fun c16 => False.elim (nI_ge (a := i) (b := 48) (by omega) (by decide) c16)) (fun c16 => ?_)
    refine go_iload (q := 21) (gDec iX0_followerCount_ok 11 rfl) rfl rfl ?_
    refine go_iload_n (q := 22) (gDec iX0_followerCount_ok 12 rfl) rfl rfl rfl ?_
    refine go_icmp_eq (t := 38) (q := 25) (gDec iX0_followerCount_ok 13 rfl) (by decide) rfl (fun c22 => ?_) (fun c22 => ?_)
    · refine go_iinc (v := nI (i + 1)) (q := 41) (gDec iX0_followerCount_ok 20 rfl) rfl (nI_1 i) (by decide) rfl ?_
      refine go_goto (t := 12) (gDec iX0_followerCount_ok 21 rfl) (by decide) ?_
      refine go_sub (L' := [(0, .ref (κ.2.1 + 13)), (1, .int (nI g)), (2, .int (nI t)), (3, .int (nI G)), (4, .int ((fun at_ a => if at_ = G then a else a + bI (gLd ld G 49 (some at_))) i a)), (5, .int (nI (i + 1)))]) ⟨rfl, rfl, rfl, rfl, (by first | (show _ = some (Value.int _); simp only [(nI_eq (a := i) (b := G) (by omega) (by omega)).mp c22, if_true]; rfl) | (show _ = some (Value.int _); simp only [show ¬ i = G from fun h => c22 (congrArg nI h), if_false]; first | (rw [c32]; exact congrArg _ (congrArg _ (Int32.add_zero a)).symm) | (rw [(by cases h9 : gLd ld G 49 (some i) with | true => rfl | false => rw [h9] at c32; exact absurd rfl c32 : bI (gLd ld G 49 (some i)) = 1)]; rfl))), rfl, trivial⟩ ?_
      exact ih (i + 1) _ (by omega) h
    · refine go_aload_n (q := 26) (gDec iX0_followerCount_ok 14 rfl) rfl rfl rfl ?_
      refine go_iload (q := 28) (gDec iX0_followerCount_ok 15 rfl) rfl rfl ?_
      refine go_iload_n (q := 29) (gDec iX0_followerCount_ok 16 rfl) rfl rfl rfl ?_
      refine go_callV (n2 := 0) (q := 32) kX0_41 (ctX0_leadsTo (by omega) (by omega) hl hb) (gDec iX0_followerCount_ok 17 rfl) rfl rfl (by decide) rfl rfl rfl (Nat.le_of_ble_eq_true rfl) rfl (gFit_rm (by decide) (by decide)) rfl ?_
      refine go_if_eq (t := 38) (q := 35) (gDec iX0_followerCount_ok 18 rfl) (by decide) rfl (fun c32 => ?_) (fun c32 => ?_)
      · refine go_iinc (v := nI (i + 1)) (q := 41) (gDec iX0_followerCount_ok 20 rfl) rfl (nI_1 i) (by decide) rfl ?_
        refine go_goto (t := 12) (gDec iX0_followerCount_ok 21 rfl) (by decide) ?_
        refine go_sub (L' := [(0, .ref (κ.2.1 + 13)), (1, .int (nI g)), (2, .int (nI t)), (3, .int (nI G)), (4, .int ((fun at_ a => if at_ = G then a else a + bI (gLd ld G 49 (some at_))) i a)), (5, .int (nI (i + 1)))]) ⟨rfl, rfl, rfl, rfl, (by first | (show _ = some (Value.int _); simp only [(nI_eq (a := i) (b := G) (by omega) (by omega)).mp c22, if_true]; rfl) | (show _ = some (Value.int _); simp only [show ¬ i = G from fun h => c22 (congrArg nI h), if_false]; first | (rw [c32]; exact congrArg _ (congrArg _ (Int32.add_zero a)).symm) | (rw [(by cases h9 : gLd ld G 49 (some i) with | true => rfl | false => rw [h9] at c32; exact absurd rfl c32 : bI (gLd ld G 49 (some i)) = 1)]; rfl))), rfl, trivial⟩ ?_
        exact ih (i + 1) _ (by omega) h
      · refine go_iinc (q := 38) (gDec iX0_followerCount_ok 19 rfl) rfl rfl (by decide) rfl ?_
        refine go_iinc (v := nI (i + 1)) (q := 41) (gDec iX0_followerCount_ok 20 rfl) rfl (nI_1 i) (by decide) rfl ?_
        refine go_goto (t := 12) (gDec iX0_followerCount_ok 21 rfl) (by decide) ?_
        refine go_sub (L' := [(0, .ref (κ.2.1 + 13)), (1, .int (nI g)), (2, .int (nI t)), (3, .int (nI G)), (4, .int ((fun at_ a => if at_ = G then a else a + bI (gLd ld G 49 (some at_))) i a)), (5, .int (nI (i + 1)))]) ⟨rfl, rfl, rfl, rfl, (by first | (show _ = some (Value.int _); simp only [(nI_eq (a := i) (b := G) (by omega) (by omega)).mp c22, if_true]; rfl) | (show _ = some (Value.int _); simp only [show ¬ i = G from fun h => c22 (congrArg nI h), if_false]; first | (rw [c32]; exact congrArg _ (congrArg _ (Int32.add_zero a)).symm) | (rw [(by cases h9 : gLd ld G 49 (some i) with | true => rfl | false => rw [h9] at c32; exact absurd rfl c32 : bI (gLd ld G 49 (some i)) = 1)]; rfl))), rfl, trivial⟩ ?_
        exact ih (i + 1) _ (by omega) h
