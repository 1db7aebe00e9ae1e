def iX5_copyFrom : List (Nat × Instr × Nat) := [(0, .aload_n 0, 1), (1, .getfield 14, 3), (4, .aload_n 1, 1), (5, .getfield 14, 3), (8, .invokevirtual 36, 3), (11, .aload_n 0, 1), (12, .getfield 20, 3), (15, .aload_n 1, 1), (16, .getfield 20, 3), (19, .invokevirtual 36, 3), (22, .aload_n 0, 1), (23, .getfield 23, 3), (26, .aload_n 1, 1), (27, .getfield 23, 3), (30, .invokevirtual 36, 3), (33, .aload_n 0, 1), (34, .getfield 26, 3), (37, .aload_n 1, 1), (38, .getfield 26, 3), (41, .invokevirtual 36, 3), (44, .aload_n 0, 1), (45, .getfield 29, 3), (48, .aload_n 1, 1), (49, .getfield 29, 3), (52, .invokevirtual 36, 3), (55, .aload_n 0, 1), (56, .aload_n 1, 1), (57, .getfield 32, 3), (60, .putfield 32, 3), (63, .return_, 1)]
theorem iX5_copyFrom_ok : gDecs mX5_copyFrom iX5_copyFrom := by decide +kernel
def iX5_glyphCount : List (Nat × Instr × Nat) := [(0, .aload_n 0, 1), (1, .getfield 32, 3), (4, .ireturn, 1)]
theorem iX5_glyphCount_ok : gDecs mX5_glyphCount iX5_glyphCount := by decide +kernel
def iX5_isFull : List (Nat × Instr × Nat) := [(0, .aload_n 0, 1), (1, .getfield 32, 3), (4, .bipush 24, 2), (6, .if_icmp .lt 7, 3), (9, .iconst 1, 1), (10, .goto 4, 3), (13, .iconst 0, 1), (14, .ireturn, 1)]
theorem iX5_isFull_ok : gDecs mX5_isFull iX5_isFull := by decide +kernel
def iX5_codeOf : List (Nat × Instr × Nat) := [(0, .aload_n 0, 1), (1, .getfield 14, 3), (4, .iload_n 1, 1), (5, .invokevirtual 40, 3), (8, .ireturn, 1)]
theorem iX5_codeOf_ok : gDecs mX5_codeOf iX5_codeOf := by decide +kernel
def iX5_glyphWith : List (Nat × Instr × Nat) := [(0, .iconst 0, 1), (1, .istore_n 2, 1), (2, .iload_n 2, 1), (3, .aload_n 0, 1), (4, .getfield 32, 3), (7, .if_icmp .ge 23, 3), (10, .aload_n 0, 1), (11, .getfield 14, 3), (14, .iload_n 2, 1), (15, .invokevirtual 40, 3), (18, .iload_n 1, 1), (19, .if_icmp .ne 5, 3), (22, .iload_n 2, 1), (23, .ireturn, 1), (24, .iinc 2 1, 3), (27, .goto (-25), 3), (30, .iconst (-1), 1), (31, .ireturn, 1)]
theorem iX5_glyphWith_ok : gDecs mX5_glyphWith iX5_glyphWith := by decide +kernel
def iX5_addEmptyGlyph : List (Nat × Instr × Nat) := [(0, .aload_n 0, 1), (1, .getfield 32, 3), (4, .istore_n 2, 1), (5, .aload_n 0, 1), (6, .getfield 14, 3), (9, .iload_n 2, 1), (10, .iload_n 1, 1), (11, .invokevirtual 44, 3), (14, .aload_n 0, 1), (15, .iload_n 2, 1), (16, .iconst 1, 1), (17, .iadd, 1), (18, .putfield 32, 3), (21, .iload_n 2, 1), (22, .ireturn, 1)]
theorem iX5_addEmptyGlyph_ok : gDecs mX5_addEmptyGlyph iX5_addEmptyGlyph := by decide +kernel
def iX5_contourCount : List (Nat × Instr × Nat) := [(0, .aload_n 0, 1), (1, .getfield 20, 3), (4, .iload_n 1, 1), (5, .invokevirtual 40, 3), (8, .ireturn, 1)]
theorem iX5_contourCount_ok : gDecs mX5_contourCount iX5_contourCount := by decide +kernel
def iX5_pointCount : List (Nat × Instr × Nat) := [(0, .aload_n 0, 1), (1, .getfield 23, 3), (4, .iload_n 1, 1), (5, .iload_n 2, 1), (6, .invokestatic 47, 3), (9, .invokevirtual 40, 3), (12, .ireturn, 1)]
theorem iX5_pointCount_ok : gDecs mX5_pointCount iX5_pointCount := by decide +kernel
def iX5_xOf : List (Nat × Instr × Nat) := [(0, .aload_n 0, 1), (1, .getfield 26, 3), (4, .iload_n 1, 1), (5, .iload_n 2, 1), (6, .iload_n 3, 1), (7, .invokestatic 51, 3), (10, .invokevirtual 40, 3), (13, .ireturn, 1)]
theorem iX5_xOf_ok : gDecs mX5_xOf iX5_xOf := by decide +kernel
def iX5_yOf : List (Nat × Instr × Nat) := [(0, .aload_n 0, 1), (1, .getfield 29, 3), (4, .iload_n 1, 1), (5, .iload_n 2, 1), (6, .iload_n 3, 1), (7, .invokestatic 51, 3), (10, .invokevirtual 40, 3), (13, .ireturn, 1)]
theorem iX5_yOf_ok : gDecs mX5_yOf iX5_yOf := by decide +kernel
def iX5_setPoint : List (Nat × Instr × Nat) := [(0, .aload_n 0, 1), (1, .getfield 26, 3), (4, .iload_n 1, 1), (5, .iload_n 2, 1), (6, .iload_n 3, 1), (7, .invokestatic 51, 3), (10, .iload 4, 2), (12, .invokevirtual 44, 3), (15, .aload_n 0, 1), (16, .getfield 29, 3), (19, .iload_n 1, 1), (20, .iload_n 2, 1), (21, .iload_n 3, 1), (22, .invokestatic 51, 3), (25, .iload 5, 2), (27, .invokevirtual 44, 3), (30, .return_, 1)]
theorem iX5_setPoint_ok : gDecs mX5_setPoint iX5_setPoint := by decide +kernel
def iX5_removeContours : List (Nat × Instr × Nat) := [(0, .aload_n 0, 1), (1, .getfield 20, 3), (4, .iload_n 1, 1), (5, .iconst 0, 1), (6, .invokevirtual 44, 3), (9, .return_, 1)]
theorem iX5_removeContours_ok : gDecs mX5_removeContours iX5_removeContours := by decide +kernel
def iX5_addEmptyContour : List (Nat × Instr × Nat) := [(0, .aload_n 0, 1), (1, .iload_n 1, 1), (2, .invokevirtual 55, 3), (5, .istore_n 2, 1), (6, .aload_n 0, 1), (7, .getfield 20, 3), (10, .iload_n 1, 1), (11, .iload_n 2, 1), (12, .iconst 1, 1), (13, .iadd, 1), (14, .invokevirtual 44, 3), (17, .aload_n 0, 1), (18, .getfield 23, 3), (21, .iload_n 1, 1), (22, .iload_n 2, 1), (23, .invokestatic 47, 3), (26, .iconst 0, 1), (27, .invokevirtual 44, 3), (30, .iload_n 2, 1), (31, .ireturn, 1)]
theorem iX5_addEmptyContour_ok : gDecs mX5_addEmptyContour iX5_addEmptyContour := by decide +kernel
def iX5_addPoint : List (Nat × Instr × Nat) := [(0, .aload_n 0, 1), (1, .iload_n 1, 1), (2, .iload_n 2, 1), (3, .invokevirtual 58, 3), (6, .istore 5, 2), (8, .aload_n 0, 1), (9, .iload_n 1, 1), (10, .iload_n 2, 1), (11, .iload 5, 2), (13, .iload_n 3, 1), (14, .iload 4, 2), (16, .invokevirtual 61, 3), (19, .aload_n 0, 1), (20, .getfield 23, 3), (23, .iload_n 1, 1), (24, .iload_n 2, 1), (25, .invokestatic 47, 3), (28, .iload 5, 2), (30, .iconst 1, 1), (31, .iadd, 1), (32, .invokevirtual 44, 3), (35, .return_, 1)]
theorem iX5_addPoint_ok : gDecs mX5_addPoint iX5_addPoint := by decide +kernel
def iX5_addBox : List (Nat × Instr × Nat) := [(0, .aload_n 0, 1), (1, .iload_n 1, 1), (2, .invokevirtual 65, 3), (5, .istore 6, 2), (7, .aload_n 0, 1), (8, .iload_n 1, 1), (9, .iload 6, 2), (11, .iload_n 2, 1), (12, .iload_n 3, 1), (13, .invokevirtual 68, 3), (16, .aload_n 0, 1), (17, .iload_n 1, 1), (18, .iload 6, 2), (20, .iload 4, 2), (22, .iload_n 3, 1), (23, .invokevirtual 68, 3), (26, .aload_n 0, 1), (27, .iload_n 1, 1), (28, .iload 6, 2), (30, .iload 4, 2), (32, .iload 5, 2), (34, .invokevirtual 68, 3), (37, .aload_n 0, 1), (38, .iload_n 1, 1), (39, .iload 6, 2), (41, .iload_n 2, 1), (42, .iload 5, 2), (44, .invokevirtual 68, 3), (47, .iload 6, 2), (49, .ireturn, 1)]
theorem iX5_addBox_ok : gDecs mX5_addBox iX5_addBox := by decide +kernel
def iX5_moveAll : List (Nat × Instr × Nat) := [(0, .iconst 0, 1), (1, .istore 4, 2), (3, .iload 4, 2), (5, .aload_n 0, 1), (6, .iload_n 1, 1), (7, .invokevirtual 55, 3), (10, .if_icmp .ge 61, 3), (13, .iconst 0, 1), (14, .istore 5, 2), (16, .iload 5, 2), (18, .aload_n 0, 1), (19, .iload_n 1, 1), (20, .iload 4, 2), (22, .invokevirtual 58, 3), (25, .if_icmp .ge 40, 3), (28, .aload_n 0, 1), (29, .iload_n 1, 1), (30, .iload 4, 2), (32, .iload 5, 2), (34, .aload_n 0, 1), (35, .iload_n 1, 1), (36, .iload 4, 2), (38, .iload 5, 2), (40, .invokevirtual 72, 3), (43, .iload_n 2, 1), (44, .iadd, 1), (45, .aload_n 0, 1), (46, .iload_n 1, 1), (47, .iload 4, 2), (49, .iload 5, 2), (51, .invokevirtual 75, 3), (54, .iload_n 3, 1), (55, .iadd, 1), (56, .invokevirtual 61, 3), (59, .iinc 5 1, 3), (62, .goto (-46), 3), (65, .iinc 4 1, 3), (68, .goto (-65), 3), (71, .return_, 1)]
theorem iX5_moveAll_ok : gDecs mX5_moveAll iX5_moveAll := by decide +kernel
def iX5_least : List (Nat × Instr × Nat) := [(0, .aload_n 0, 1), (1, .iload_n 1, 1), (2, .iload_n 2, 1), (3, .ifCond .eq 10, 3), (6, .aload_n 0, 1), (7, .getfield 29, 3), (10, .goto 7, 3), (13, .aload_n 0, 1), (14, .getfield 26, 3), (17, .iconst 0, 1), (18, .invokevirtual 78, 3), (21, .ireturn, 1)]
theorem iX5_least_ok : gDecs mX5_least iX5_least := by decide +kernel
def iX5_greatest : List (Nat × Instr × Nat) := [(0, .aload_n 0, 1), (1, .iload_n 1, 1), (2, .iload_n 2, 1), (3, .ifCond .eq 10, 3), (6, .aload_n 0, 1), (7, .getfield 29, 3), (10, .goto 7, 3), (13, .aload_n 0, 1), (14, .getfield 26, 3), (17, .iconst 1, 1), (18, .invokevirtual 78, 3), (21, .ireturn, 1)]
theorem iX5_greatest_ok : gDecs mX5_greatest iX5_greatest := by decide +kernel
def iX5_extreme : List (Nat × Instr × Nat) := [(0, .aload_n 0, 1), (1, .iload_n 1, 1), (2, .invokevirtual 55, 3), (5, .ifCond .ne 7, 3), (8, .iconst 0, 1), (9, .goto 13, 3), (12, .aload_n 2, 1), (13, .iload_n 1, 1), (14, .iconst 0, 1), (15, .iconst 0, 1), (16, .invokestatic 51, 3), (19, .invokevirtual 40, 3), (22, .istore 4, 2), (24, .iconst 0, 1), (25, .istore 5, 2), (27, .iload 5, 2), (29, .aload_n 0, 1), (30, .iload_n 1, 1), (31, .invokevirtual 55, 3), (34, .if_icmp .ge 67, 3), (37, .iconst 0, 1), (38, .istore 6, 2), (40, .iload 6, 2), (42, .aload_n 0, 1), (43, .iload_n 1, 1), (44, .iload 5, 2), (46, .invokevirtual 58, 3), (49, .if_icmp .ge 46, 3), (52, .aload_n 2, 1), (53, .iload_n 1, 1), (54, .iload 5, 2), (56, .iload 6, 2), (58, .invokestatic 51, 3), (61, .invokevirtual 40, 3), (64, .istore 7, 2), (66, .iload_n 3, 1), (67, .ifCond .eq 13, 3), (70, .iload 4, 2), (72, .iload 7, 2), (74, .invokestatic 82, 3), (77, .goto 10, 3), (80, .iload 4, 2), (82, .iload 7, 2), (84, .invokestatic 87, 3), (87, .istore 4, 2), (89, .iinc 6 1, 3), (92, .goto (-52), 3), (95, .iinc 5 1, 3), (98, .goto (-71), 3), (101, .iload 4, 2), (103, .ireturn, 1)]
theorem iX5_extreme_ok : gDecs mX5_extreme iX5_extreme := by decide +kernel
def iX5_twiceArea : List (Nat × Instr × Nat) := [(0, .iconst 0, 1), (1, .istore_n 3, 1), (2, .iconst 0, 1), (3, .istore 4, 2), (5, .iload 4, 2), (7, .aload_n 0, 1), (8, .iload_n 1, 1), (9, .iload_n 2, 1), (10, .invokevirtual 58, 3), (13, .if_icmp .ge 57, 3), (16, .aload_n 0, 1), (17, .iload_n 1, 1), (18, .iload_n 2, 1), (19, .iload 4, 2), (21, .invokevirtual 90, 3), (24, .istore 5, 2), (26, .iload_n 3, 1), (27, .aload_n 0, 1), (28, .iload_n 1, 1), (29, .iload_n 2, 1), (30, .iload 4, 2), (32, .invokevirtual 72, 3), (35, .aload_n 0, 1), (36, .iload_n 1, 1), (37, .iload_n 2, 1), (38, .iload 5, 2), (40, .invokevirtual 75, 3), (43, .imul, 1), (44, .aload_n 0, 1), (45, .iload_n 1, 1), (46, .iload_n 2, 1), (47, .iload 5, 2), (49, .invokevirtual 72, 3), (52, .aload_n 0, 1), (53, .iload_n 1, 1), (54, .iload_n 2, 1), (55, .iload 4, 2), (57, .invokevirtual 75, 3), (60, .imul, 1), (61, .isub, 1), (62, .iadd, 1), (63, .istore_n 3, 1), (64, .iinc 4 1, 3), (67, .goto (-62), 3), (70, .iload_n 3, 1), (71, .ireturn, 1)]
theorem iX5_twiceArea_ok : gDecs mX5_twiceArea iX5_twiceArea := by decide +kernel
def iX5_twiceAreaOf : List (Nat × Instr × Nat) := [(0, .iconst 0, 1), (1, .istore_n 2, 1), (2, .iconst 0, 1), (3, .istore_n 3, 1), (4, .iload_n 3, 1), (5, .aload_n 0, 1), (6, .iload_n 1, 1), (7, .invokevirtual 55, 3), (10, .if_icmp .ge 18, 3), (13, .iload_n 2, 1), (14, .aload_n 0, 1), (15, .iload_n 1, 1), (16, .iload_n 3, 1), (17, .invokevirtual 93, 3), (20, .iadd, 1), (21, .istore_n 2, 1), (22, .iinc 3 1, 3), (25, .goto (-21), 3), (28, .iload_n 2, 1), (29, .ireturn, 1)]
theorem iX5_twiceAreaOf_ok : gDecs mX5_twiceAreaOf iX5_twiceAreaOf := by decide +kernel
def iX5_pointCountOf : List (Nat × Instr × Nat) := [(0, .iconst 0, 1), (1, .istore_n 2, 1), (2, .iconst 0, 1), (3, .istore_n 3, 1), (4, .iload_n 3, 1), (5, .aload_n 0, 1), (6, .iload_n 1, 1), (7, .invokevirtual 55, 3), (10, .if_icmp .ge 18, 3), (13, .iload_n 2, 1), (14, .aload_n 0, 1), (15, .iload_n 1, 1), (16, .iload_n 3, 1), (17, .invokevirtual 58, 3), (20, .iadd, 1), (21, .istore_n 2, 1), (22, .iinc 3 1, 3), (25, .goto (-21), 3), (28, .iload_n 2, 1), (29, .ireturn, 1)]
theorem iX5_pointCountOf_ok : gDecs mX5_pointCountOf iX5_pointCountOf := by decide +kernel
def iX5_contourSum : List (Nat × Instr × Nat) := [(0, .iconst 0, 1), (1, .istore_n 1, 1), (2, .iconst 0, 1), (3, .istore_n 2, 1), (4, .iload_n 2, 1), (5, .aload_n 0, 1), (6, .getfield 32, 3), (9, .if_icmp .ge 17, 3), (12, .iload_n 1, 1), (13, .aload_n 0, 1), (14, .iload_n 2, 1), (15, .invokevirtual 55, 3), (18, .iadd, 1), (19, .istore_n 1, 1), (20, .iinc 2 1, 3), (23, .goto (-19), 3), (26, .iload_n 1, 1), (27, .ireturn, 1)]
theorem iX5_contourSum_ok : gDecs mX5_contourSum iX5_contourSum := by decide +kernel
def iX5_pointSum : List (Nat × Instr × Nat) := [(0, .iconst 0, 1), (1, .istore_n 1, 1), (2, .iconst 0, 1), (3, .istore_n 2, 1), (4, .iload_n 2, 1), (5, .aload_n 0, 1), (6, .getfield 32, 3), (9, .if_icmp .ge 17, 3), (12, .iload_n 1, 1), (13, .aload_n 0, 1), (14, .iload_n 2, 1), (15, .invokevirtual 96, 3), (18, .iadd, 1), (19, .istore_n 1, 1), (20, .iinc 2 1, 3), (23, .goto (-19), 3), (26, .iload_n 1, 1), (27, .ireturn, 1)]
theorem iX5_pointSum_ok : gDecs mX5_pointSum iX5_pointSum := by decide +kernel
def iX5_blackBits : List (Nat × Instr × Nat) := [(0, .iconst 2, 1), (1, .iload_n 3, 1), (2, .imul, 1), (3, .iconst 1, 1), (4, .iadd, 1), (5, .sipush 500, 3), (8, .imul, 1), (9, .istore 6, 2), (11, .lconst 0, 1), (12, .lstore 7, 2), (14, .iconst 0, 1), (15, .istore 9, 2), (17, .iload 9, 2), (19, .aload_n 0, 1), (20, .iload_n 1, 1), (21, .invokevirtual 55, 3), (24, .if_icmp .ge 167, 3), (27, .iconst 0, 1), (28, .istore 10, 2), (30, .iload 10, 2), (32, .aload_n 0, 1), (33, .iload_n 1, 1), (34, .iload 9, 2), (36, .invokevirtual 58, 3), (39, .if_icmp .ge 146, 3), (42, .aload_n 0, 1), (43, .iload_n 1, 1), (44, .iload 9, 2), (46, .iload 10, 2), (48, .invokevirtual 90, 3), (51, .istore 11, 2), (53, .aload_n 0, 1), (54, .iload_n 1, 1), (55, .iload 9, 2), (57, .iload 10, 2), (59, .invokevirtual 75, 3), (62, .iload_n 2, 1), (63, .imul, 1), (64, .iload 6, 2), (66, .isub, 1), (67, .istore 12, 2), (69, .aload_n 0, 1), (70, .iload_n 1, 1), (71, .iload 9, 2), (73, .iload 11, 2), (75, .invokevirtual 75, 3), (78, .iload_n 2, 1), (79, .imul, 1), (80, .iload 6, 2), (82, .isub, 1), (83, .istore 13, 2), (85, .iload 12, 2), (87, .ifCond .gt 7, 3), (90, .iconst 1, 1), (91, .goto 4, 3), (94, .iconst 0, 1), (95, .iload 13, 2), (97, .ifCond .gt 7, 3), (100, .iconst 1, 1), (101, .goto 4, 3), (104, .iconst 0, 1), (105, .if_icmp .eq 74, 3), (108, .aload_n 0, 1), (109, .iload_n 1, 1), (110, .iload 9, 2), (112, .iload 10, 2), (114, .invokevirtual 72, 3), (117, .iload_n 2, 1), (118, .imul, 1), (119, .istore 14, 2), (121, .aload_n 0, 1), (122, .iload_n 1, 1), (123, .iload 9, 2), (125, .iload 11, 2), (127, .invokevirtual 72, 3), (130, .iload_n 2, 1), (131, .imul, 1), (132, .istore 15, 2), (134, .lload 7, 2), (136, .iload 13, 2), (138, .iload 12, 2), (140, .if_icmp .le 21, 3), (143, .iload 14, 2), (145, .iload 12, 2), (147, .iload 15, 2), (149, .iload 13, 2), (151, .iload 4, 2), (153, .iload 5, 2), (155, .invokestatic 99, 3), (158, .goto 18, 3), (161, .iload 15, 2), (163, .iload 13, 2), (165, .iload 14, 2), (167, .iload 12, 2), (169, .iload 4, 2), (171, .iload 5, 2), (173, .invokestatic 99, 3), (176, .lxor, 1), (177, .lstore 7, 2), (179, .iinc 10 1, 3), (182, .goto (-152), 3), (185, .iinc 9 1, 3), (188, .goto (-171), 3), (191, .lload 7, 2), (193, .lreturn, 1)]
theorem iX5_blackBits_ok : gDecs mX5_blackBits iX5_blackBits := by decide +kernel
def iX5_bitsBefore : List (Nat × Instr × Nat) := [(0, .lconst 0, 1), (1, .lstore 6, 2), (3, .lconst 1, 1), (4, .lstore 8, 2), (6, .iload 4, 2), (8, .istore 10, 2), (10, .iload 10, 2), (12, .iload 5, 2), (14, .if_icmp .gt 54, 3), (17, .iconst 2, 1), (18, .iload 10, 2), (20, .imul, 1), (21, .iconst 1, 1), (22, .iadd, 1), (23, .sipush 500, 3), (26, .imul, 1), (27, .istore 11, 2), (29, .iload_n 0, 1), (30, .iload 11, 2), (32, .isub, 1), (33, .i2l, 1), (34, .iload_n 3, 1), (35, .i2l, 1), (36, .lmul, 1), (37, .iload_n 2, 1), (38, .iload 11, 2), (40, .isub, 1), (41, .i2l, 1), (42, .iload_n 1, 1), (43, .i2l, 1), (44, .lmul, 1), (45, .lcmp, 1), (46, .ifCond .le 10, 3), (49, .lload 6, 2), (51, .lload 8, 2), (53, .lor, 1), (54, .lstore 6, 2), (56, .lload 8, 2), (58, .iconst 1, 1), (59, .lshl, 1), (60, .lstore 8, 2), (62, .iinc 10 1, 3), (65, .goto (-55), 3), (68, .lload 6, 2), (70, .lreturn, 1)]
theorem iX5_bitsBefore_ok : gDecs mX5_bitsBefore iX5_bitsBefore := by decide +kernel
def iX5_nextPoint : List (Nat × Instr × Nat) := [(0, .iload_n 3, 1), (1, .iconst 1, 1), (2, .iadd, 1), (3, .aload_n 0, 1), (4, .iload_n 1, 1), (5, .iload_n 2, 1), (6, .invokevirtual 58, 3), (9, .if_icmp .ge 9, 3), (12, .iload_n 3, 1), (13, .iconst 1, 1), (14, .iadd, 1), (15, .goto 4, 3), (18, .iconst 0, 1), (19, .ireturn, 1)]
theorem iX5_nextPoint_ok : gDecs mX5_nextPoint iX5_nextPoint := by decide +kernel
def iX5_contourIndex : List (Nat × Instr × Nat) := [(0, .iload_n 0, 1), (1, .iconst 3, 1), (2, .imul, 1), (3, .iload_n 1, 1), (4, .iadd, 1), (5, .ireturn, 1)]
theorem iX5_contourIndex_ok : gDecs mX5_contourIndex iX5_contourIndex := by decide +kernel
def iX5_pointIndex : List (Nat × Instr × Nat) := [(0, .iload_n 0, 1), (1, .iload_n 1, 1), (2, .invokestatic 47, 3), (5, .bipush 12, 2), (7, .imul, 1), (8, .iload_n 2, 1), (9, .iadd, 1), (10, .ireturn, 1)]
theorem iX5_pointIndex_ok : gDecs mX5_pointIndex iX5_pointIndex := by decide +kernel
def iX7_get : List (Nat × Instr × Nat) := [(0, .iload_n 1, 1), (1, .ifCond .lt 21, 3), (4, .iload_n 1, 1), (5, .aload_n 0, 1), (6, .getfield 7, 3), (9, .arraylength, 1), (10, .if_icmp .ge 12, 3), (13, .aload_n 0, 1), (14, .getfield 7, 3), (17, .iload_n 1, 1), (18, .iaload, 1), (19, .goto 4, 3), (22, .iconst 0, 1), (23, .ireturn, 1)]
theorem iX7_get_ok : gDecs mX7_get iX7_get := by decide +kernel
def iX7_put : List (Nat × Instr × Nat) := [(0, .iload_n 1, 1), (1, .ifCond .lt 19, 3), (4, .iload_n 1, 1), (5, .aload_n 0, 1), (6, .getfield 7, 3), (9, .arraylength, 1), (10, .if_icmp .ge 10, 3), (13, .aload_n 0, 1), (14, .getfield 7, 3), (17, .iload_n 1, 1), (18, .iload_n 2, 1), (19, .iastore, 1), (20, .return_, 1)]
theorem iX7_put_ok : gDecs mX7_put iX7_put := by decide +kernel
def iX7_copyFrom : List (Nat × Instr × Nat) := [(0, .aload_n 1, 1), (1, .getfield 7, 3), (4, .iconst 0, 1), (5, .aload_n 0, 1), (6, .getfield 7, 3), (9, .iconst 0, 1), (10, .aload_n 1, 1), (11, .getfield 7, 3), (14, .arraylength, 1), (15, .aload_n 0, 1), (16, .getfield 7, 3), (19, .arraylength, 1), (20, .invokestatic 13, 3), (23, .invokestatic 19, 3), (26, .return_, 1)]
theorem iX7_copyFrom_ok : gDecs mX7_copyFrom iX7_copyFrom := by decide +kernel

set_option maxHeartbeats 4000000 in
set_option maxRecDepth 100000 in
theorem ctX7_get {κ : gK} {σ : gST} {r a len : Nat} (hs : gFd r 7 0 = some (some a)) (ha : gSh a = .inr (0, len)) (hr : r < gN) (har : a < gN) {i : Nat} (hi : i < len) (hl : len < 2 ^ 31) : gCt κ mX7_get 0 [.ref (κ.2.1 + r), .int (nI i)] σ (.inl (some (.int (σ.1 a i)))) σ 0 := by
  refine ct_of (by decide +kernel) rfl (Nat.le_of_ble_eq_true rfl) rfl ?_
  refine go_iload_n (q := 1) (gDec iX7_get_ok 0 rfl) rfl rfl rfl ?_
  refine go_if_lt (t := 22) (q := 4) (gDec iX7_get_ok 1 rfl) (by decide) rfl (fun c1 => False.elim (nI_pos (Nat.lt_trans hi hl) c1)) (fun c1 => ?_)
  refine go_iload_n (q := 5) (gDec iX7_get_ok 2 rfl) rfl rfl rfl ?_
  refine go_aload_n (q := 6) (gDec iX7_get_ok 3 rfl) rfl rfl rfl ?_
  refine go_getr (r' := a) (q := 9) fX7_7 (gDec iX7_get_ok 4 rfl) hs hr rfl ?_
  refine go_alen (v := nI len) (q := 10) (gDec iX7_get_ok 5 rfl) ha (by decide) har rfl rfl ?_
  refine go_icmp_ge (t := 22) (q := 13) (gDec iX7_get_ok 6 rfl) (by decide) rfl (fun c10 => False.elim (nI_ge hi hl c10)) (fun c10 => ?_)
  refine go_aload_n (q := 14) (gDec iX7_get_ok 7 rfl) rfl rfl rfl ?_
  refine go_getr (r' := a) (q := 17) fX7_7 (gDec iX7_get_ok 8 rfl) hs hr rfl ?_
  refine go_iload_n (q := 18) (gDec iX7_get_ok 9 rfl) rfl rfl rfl ?_
  refine go_ialdN (q := 19) (gDec iX7_get_ok 10 rfl) ha har hi hl rfl ?_
  refine go_goto (t := 23) (gDec iX7_get_ok 11 rfl) (by decide) ?_
  exact go_ireturn (gDec iX7_get_ok 13 rfl) rfl rfl rfl rfl (by decide)

set_option maxHeartbeats 4000000 in
set_option maxRecDepth 100000 in
theorem ctX7_put {κ : gK} {σ : gST} {r a len : Nat} (hs : gFd r 7 0 = some (some a)) (ha : gSh a = .inr (0, len)) (hr : r < gN) (har : a < gN) {i : Nat} {v : Int32} (hi : i < len) (hl : len < 2 ^ 31) : gCt κ mX7_put 0 [.ref (κ.2.1 + r), .int (nI i), .int v] σ (.inl none) (gPut σ a i v) 0 := by
  refine ct_of (by decide +kernel) rfl (Nat.le_of_ble_eq_true rfl) rfl ?_
  refine go_iload_n (q := 1) (gDec iX7_put_ok 0 rfl) rfl rfl rfl ?_
  refine go_if_lt (t := 20) (q := 4) (gDec iX7_put_ok 1 rfl) (by decide) rfl (fun c1 => False.elim (nI_pos (Nat.lt_trans hi hl) c1)) (fun c1 => ?_)
  refine go_iload_n (q := 5) (gDec iX7_put_ok 2 rfl) rfl rfl rfl ?_
  refine go_aload_n (q := 6) (gDec iX7_put_ok 3 rfl) rfl rfl rfl ?_
  refine go_getr (r' := a) (q := 9) fX7_7 (gDec iX7_put_ok 4 rfl) hs hr rfl ?_
  refine go_alen (v := nI len) (q := 10) (gDec iX7_put_ok 5 rfl) ha (by decide) har rfl rfl ?_
  refine go_icmp_ge (t := 20) (q := 13) (gDec iX7_put_ok 6 rfl) (by decide) rfl (fun c10 => False.elim (nI_ge hi hl c10)) (fun c10 => ?_)
  refine go_aload_n (q := 14) (gDec iX7_put_ok 7 rfl) rfl rfl rfl ?_
  refine go_getr (r' := a) (q := 17) fX7_7 (gDec iX7_put_ok 8 rfl) hs hr rfl ?_
  refine go_iload_n (q := 18) (gDec iX7_put_ok 9 rfl) rfl rfl rfl ?_
  refine go_iload_n (q := 19) (gDec iX7_put_ok 10 rfl) rfl rfl rfl ?_
  refine go_iastN (q := 20) (gDec iX7_put_ok 11 rfl) ha har hi hl rfl ?_
  exact go_return (gDec iX7_put_ok 12 rfl) rfl rfl rfl (by decide)

set_option maxHeartbeats 4000000 in
set_option maxRecDepth 100000 in
theorem ctX7_copyFrom {κ : gK} {σ : gST} {r a r2 a2 len : Nat} (hs : gFd r 7 0 = some (some a)) (ha : gSh a = .inr (0, len)) (hr : r < gN) (har : a < gN) (hs2 : gFd r2 7 0 = some (some a2)) (ha2 : gSh a2 = .inr (0, len)) (hr2 : r2 < gN) (har2 : a2 < gN) (hl : len < 2 ^ 31) : gCt κ mX7_copyFrom 1 [.ref (κ.2.1 + r), .ref (κ.2.1 + r2)] σ (.inl none) (gSA σ.1 a (gCpN (σ.1 a2) (σ.1 a) len), σ.2) 0 := by
  refine ct_of (by decide +kernel) rfl (Nat.le_of_ble_eq_true rfl) rfl ?_
  refine go_aload_n (q := 1) (gDec iX7_copyFrom_ok 0 rfl) rfl rfl rfl ?_
  refine go_getr (r' := a2) (q := 4) fX7_7 (gDec iX7_copyFrom_ok 1 rfl) hs2 (by assumption) rfl ?_
  refine go_iconst (v := 0) (q := 5) (gDec iX7_copyFrom_ok 2 rfl) (by decide) rfl ?_
  refine go_aload_n (q := 6) (gDec iX7_copyFrom_ok 3 rfl) rfl rfl rfl ?_
  refine go_getr (r' := a) (q := 9) fX7_7 (gDec iX7_copyFrom_ok 4 rfl) hs (by assumption) rfl ?_
  refine go_iconst (v := 0) (q := 10) (gDec iX7_copyFrom_ok 5 rfl) (by decide) rfl ?_
  refine go_aload_n (q := 11) (gDec iX7_copyFrom_ok 6 rfl) rfl rfl rfl ?_
  refine go_getr (r' := a2) (q := 14) fX7_7 (gDec iX7_copyFrom_ok 7 rfl) hs2 (by assumption) rfl ?_
  refine go_alen (v := nI len) (q := 15) (gDec iX7_copyFrom_ok 8 rfl) ha2 (by decide) har2 rfl rfl ?_
  refine go_aload_n (q := 16) (gDec iX7_copyFrom_ok 9 rfl) rfl rfl rfl ?_
  refine go_getr (r' := a) (q := 19) fX7_7 (gDec iX7_copyFrom_ok 10 rfl) hs (by assumption) rfl ?_
  refine go_alen (v := nI len) (q := 20) (gDec iX7_copyFrom_ok 11 rfl) ha (by decide) har rfl rfl ?_
  refine go_min (q := 23) kX7_13 (gDec iX7_copyFrom_ok 12 rfl) (Nat.le_of_ble_eq_true rfl) (gFit_rm (by decide) (by decide)) rfl ?_
  refine go_copy (q := 26) kX7_19 (gDec iX7_copyFrom_ok 13 rfl) ha2 ha har2 har (by decide) (by decide) (by simp only [ite_self]; exact nI_pos hl) (by simp only [ite_self, nI_clamp hl]; exact Nat.le_of_eq (Nat.zero_add _)) (by simp only [ite_self, nI_clamp hl]; exact Nat.le_of_eq (Nat.zero_add _)) (Nat.le_of_ble_eq_true rfl) (gFit_rm (by decide) (by decide)) rfl ?_
  exact go_return (gDec iX7_copyFrom_ok 14 rfl) rfl rfl (by simp only [ite_self, nI_clamp hl]; rw [show ((0 : Int32)).toNatClampNeg = 0 from rfl, gCpN_of]) (by decide)

set_option maxHeartbeats 4000000 in
set_option maxRecDepth 100000 in
theorem ctX5_contourIndex {κ : gK} {σ : gST} {g c : Nat} : gCt κ mX5_contourIndex 0 [.int (nI g), .int (nI c)] σ (.inl (some (.int (nI (g * 3 + c))))) σ 0 := by
  refine ct_of (by decide +kernel) rfl (Nat.le_of_ble_eq_true rfl) rfl ?_
  refine go_iload_n (q := 1) (gDec iX5_contourIndex_ok 0 rfl) rfl rfl rfl ?_
  refine go_iconst (v := 3) (q := 2) (gDec iX5_contourIndex_ok 1 rfl) (by decide) rfl ?_
  refine go_imul (q := 3) (gDec iX5_contourIndex_ok 2 rfl) rfl ?_
  refine go_iload_n (q := 4) (gDec iX5_contourIndex_ok 3 rfl) rfl rfl rfl ?_
  refine go_iadd (q := 5) (gDec iX5_contourIndex_ok 4 rfl) rfl ?_
  exact go_ireturn (gDec iX5_contourIndex_ok 5 rfl) rfl rfl (by rw [show (3 : Int32) = nI 3 from rfl, nI_mul, nI_add]) rfl (by decide)

set_option maxHeartbeats 4000000 in
set_option maxRecDepth 100000 in
theorem ctX5_pointIndex {κ : gK} {σ : gST} {g c p : Nat} : gCt κ mX5_pointIndex 1 [.int (nI g), .int (nI c), .int (nI p)] σ (.inl (some (.int (nI ((g * 3 + c) * 12 + p))))) σ 0 := by
  refine ct_of (by decide +kernel) rfl (Nat.le_of_ble_eq_true rfl) rfl ?_
  refine go_iload_n (q := 1) (gDec iX5_pointIndex_ok 0 rfl) rfl rfl rfl ?_
  refine go_iload_n (q := 2) (gDec iX5_pointIndex_ok 1 rfl) rfl rfl rfl ?_
  refine go_callS (n2 := 0) (q := 5) kX5_47 ctX5_contourIndex (gDec iX5_pointIndex_ok 2 rfl) rfl rfl (Nat.le_of_ble_eq_true rfl) rfl (gFit_rm (by decide) (by decide)) rfl ?_
  refine go_bipush (v := 12) (q := 7) (gDec iX5_pointIndex_ok 3 rfl) (by decide) rfl ?_
  refine go_imul (q := 8) (gDec iX5_pointIndex_ok 4 rfl) rfl ?_
  refine go_iload_n (q := 9) (gDec iX5_pointIndex_ok 5 rfl) rfl rfl rfl ?_
  refine go_iadd (q := 10) (gDec iX5_pointIndex_ok 6 rfl) rfl ?_
  exact go_ireturn (gDec iX5_pointIndex_ok 7 rfl) rfl rfl (by rw [show (12 : Int32) = nI 12 from rfl, nI_mul, nI_add]) rfl (by decide)

set_option maxHeartbeats 4000000 in
set_option maxRecDepth 100000 in
theorem ctX5_glyphCount {κ : gK} {σ : gST}  : gCt κ mX5_glyphCount 0 [.ref (κ.2.1 + 2)] σ (.inl (some (.int (σ.1 2 5)))) σ 0 := by
  refine ct_of (by decide +kernel) rfl (Nat.le_of_ble_eq_true rfl) rfl ?_
  refine go_aload_n (q := 1) (gDec iX5_glyphCount_ok 0 rfl) rfl rfl rfl ?_
  refine go_geti (q := 4) fX5_32 (gDec iX5_glyphCount_ok 1 rfl) rfl (by decide) rfl ?_
  exact go_ireturn (gDec iX5_glyphCount_ok 2 rfl) rfl rfl rfl rfl (by decide)

set_option maxHeartbeats 4000000 in
set_option maxRecDepth 100000 in
theorem ctX5_isFull {κ : gK} {σ : gST} {n : Nat} (hn : σ.1 2 5 = nI n) (hle : n ≤ 24) : gCt κ mX5_isFull 0 [.ref (κ.2.1 + 2)] σ (.inl (some (.int (if n = 24 then 1 else 0)))) σ 0 := by
  refine ct_of (by decide +kernel) rfl (Nat.le_of_ble_eq_true rfl) rfl ?_
  refine go_aload_n (q := 1) (gDec iX5_isFull_ok 0 rfl) rfl rfl rfl ?_
  refine go_geti (q := 4) fX5_32 (gDec iX5_isFull_ok 1 rfl) rfl (by decide) rfl ?_
  refine go_bipush (v := 24) (q := 6) (gDec iX5_isFull_ok 2 rfl) (by decide) rfl ?_
  refine go_icmp_lt (t := 13) (q := 9) (gDec iX5_isFull_ok 3 rfl) (by decide) rfl (fun c6 => ?_) (fun c6 => ?_)
  · refine go_iconst (v := 0) (q := 14) (gDec iX5_isFull_ok 6 rfl) (by decide) rfl ?_
    exact go_ireturn (gDec iX5_isFull_ok 7 rfl) rfl rfl (by first | (rw [hn] at c6; rw [if_neg (fun h => nI_nlt (Nat.le_of_eq h.symm) (by omega) c6)]) | (rw [hn] at c6; rw [if_pos (by rcases Nat.lt_or_ge n 24 with h | h; exact absurd (nI_lt h (by decide)) c6; omega)])) rfl (by decide)
  · refine go_iconst (v := 1) (q := 10) (gDec iX5_isFull_ok 4 rfl) (by decide) rfl ?_
    refine go_goto (t := 14) (gDec iX5_isFull_ok 5 rfl) (by decide) ?_
    exact go_ireturn (gDec iX5_isFull_ok 7 rfl) rfl rfl (by first | (rw [hn] at c6; rw [if_neg (fun h => nI_nlt (Nat.le_of_eq h.symm) (by omega) c6)]) | (rw [hn] at c6; rw [if_pos (by rcases Nat.lt_or_ge n 24 with h | h; exact absurd (nI_lt h (by decide)) c6; omega)])) rfl (by decide)

set_option maxHeartbeats 4000000 in
set_option maxRecDepth 100000 in
theorem ctX5_codeOf {κ : gK} {σ : gST} {g : Nat} (hg : g < 24) : gCt κ mX5_codeOf 1 [.ref (κ.2.1 + 2), .int (nI g)] σ (.inl (some (.int (σ.1 4 g)))) σ 0 := by
  refine ct_of (by decide +kernel) rfl (Nat.le_of_ble_eq_true rfl) rfl ?_
  refine go_aload_n (q := 1) (gDec iX5_codeOf_ok 0 rfl) rfl rfl rfl ?_
  refine go_getr (r' := 3) (q := 4) fX5_14 (gDec iX5_codeOf_ok 1 rfl) rfl (by decide) rfl ?_
  refine go_iload_n (q := 5) (gDec iX5_codeOf_ok 2 rfl) rfl rfl rfl ?_
  refine go_callV (n2 := 0) (q := 8) kX5_40 (ctX7_get (a := 4) rfl rfl (by decide) (by decide) (by omega) (by decide)) (gDec iX5_codeOf_ok 3 rfl) rfl rfl (by decide) rfl rfl rfl (Nat.le_of_ble_eq_true rfl) rfl (gFit_rm (by decide) (by decide)) rfl ?_
  exact go_ireturn (gDec iX5_codeOf_ok 4 rfl) rfl rfl rfl rfl (by decide)

set_option maxHeartbeats 4000000 in
set_option maxRecDepth 100000 in
theorem ctX5_contourCount {κ : gK} {σ : gST} {g : Nat} (hg : g < 24) : gCt κ mX5_contourCount 1 [.ref (κ.2.1 + 2), .int (nI g)] σ (.inl (some (.int (σ.1 6 g)))) σ 0 := by
  refine ct_of (by decide +kernel) rfl (Nat.le_of_ble_eq_true rfl) rfl ?_
  refine go_aload_n (q := 1) (gDec iX5_contourCount_ok 0 rfl) rfl rfl rfl ?_
  refine go_getr (r' := 5) (q := 4) fX5_20 (gDec iX5_contourCount_ok 1 rfl) rfl (by decide) rfl ?_
  refine go_iload_n (q := 5) (gDec iX5_contourCount_ok 2 rfl) rfl rfl rfl ?_
  refine go_callV (n2 := 0) (q := 8) kX5_40 (ctX7_get (a := 6) rfl rfl (by decide) (by decide) (by omega) (by decide)) (gDec iX5_contourCount_ok 3 rfl) rfl rfl (by decide) rfl rfl rfl (Nat.le_of_ble_eq_true rfl) rfl (gFit_rm (by decide) (by decide)) rfl ?_
  exact go_ireturn (gDec iX5_contourCount_ok 4 rfl) rfl rfl rfl rfl (by decide)

set_option maxHeartbeats 4000000 in
set_option maxRecDepth 100000 in
theorem ctX5_pointCount {κ : gK} {σ : gST} {g c : Nat} (hg : g < 24) (hc : c < 3) : gCt κ mX5_pointCount 1 [.ref (κ.2.1 + 2), .int (nI g), .int (nI c)] σ (.inl (some (.int (σ.1 8 (g * 3 + c))))) σ 0 := by
  refine ct_of (by decide +kernel) rfl (Nat.le_of_ble_eq_true rfl) rfl ?_
  refine go_aload_n (q := 1) (gDec iX5_pointCount_ok 0 rfl) rfl rfl rfl ?_
  refine go_getr (r' := 7) (q := 4) fX5_23 (gDec iX5_pointCount_ok 1 rfl) rfl (by decide) rfl ?_
  refine go_iload_n (q := 5) (gDec iX5_pointCount_ok 2 rfl) rfl rfl rfl ?_
  refine go_iload_n (q := 6) (gDec iX5_pointCount_ok 3 rfl) rfl rfl rfl ?_
  refine go_callS (n2 := 0) (q := 9) kX5_47 ctX5_contourIndex (gDec iX5_pointCount_ok 4 rfl) rfl rfl (Nat.le_of_ble_eq_true rfl) rfl (gFit_rm (by decide) (by decide)) rfl ?_
  refine go_callV (n2 := 0) (q := 12) kX5_40 (ctX7_get (a := 8) rfl rfl (by decide) (by decide) (by omega) (by decide)) (gDec iX5_pointCount_ok 5 rfl) rfl rfl (by decide) rfl rfl rfl (Nat.le_of_ble_eq_true rfl) rfl (gFit_rm (by decide) (by decide)) rfl ?_
  exact go_ireturn (gDec iX5_pointCount_ok 6 rfl) rfl rfl rfl rfl (by decide)

set_option maxHeartbeats 4000000 in
set_option maxRecDepth 100000 in
theorem ctX5_xOf {κ : gK} {σ : gST} {g c p : Nat} (hg : g < 24) (hc : c < 3) (hp : p < 12) : gCt κ mX5_xOf 2 [.ref (κ.2.1 + 2), .int (nI g), .int (nI c), .int (nI p)] σ (.inl (some (.int (σ.1 10 ((g * 3 + c) * 12 + p))))) σ 0 := by
  refine ct_of (by decide +kernel) rfl (Nat.le_of_ble_eq_true rfl) rfl ?_
  refine go_aload_n (q := 1) (gDec iX5_xOf_ok 0 rfl) rfl rfl rfl ?_
  refine go_getr (r' := 9) (q := 4) fX5_26 (gDec iX5_xOf_ok 1 rfl) rfl (by decide) rfl ?_
  refine go_iload_n (q := 5) (gDec iX5_xOf_ok 2 rfl) rfl rfl rfl ?_
  refine go_iload_n (q := 6) (gDec iX5_xOf_ok 3 rfl) rfl rfl rfl ?_
  refine go_iload_n (q := 7) (gDec iX5_xOf_ok 4 rfl) rfl rfl rfl ?_
  refine go_callS (n2 := 0) (q := 10) kX5_51 ctX5_pointIndex (gDec iX5_xOf_ok 5 rfl) rfl rfl (Nat.le_of_ble_eq_true rfl) rfl (gFit_rm (by decide) (by decide)) rfl ?_
  refine go_callV (n2 := 0) (q := 13) kX5_40 (ctX7_get (a := 10) rfl rfl (by decide) (by decide) (by omega) (by decide)) (gDec iX5_xOf_ok 6 rfl) rfl rfl (by decide) rfl rfl rfl (Nat.le_of_ble_eq_true rfl) rfl (gFit_rm (by decide) (by decide)) rfl ?_
  exact go_ireturn (gDec iX5_xOf_ok 7 rfl) rfl rfl rfl rfl (by decide)

set_option maxHeartbeats 4000000 in
set_option maxRecDepth 100000 in
theorem ctX5_yOf {κ : gK} {σ : gST} {g c p : Nat} (hg : g < 24) (hc : c < 3) (hp : p < 12) : gCt κ mX5_yOf 2 [.ref (κ.2.1 + 2), .int (nI g), .int (nI c), .int (nI p)] σ (.inl (some (.int (σ.1 12 ((g * 3 + c) * 12 + p))))) σ 0 := by
  refine ct_of (by decide +kernel) rfl (Nat.le_of_ble_eq_true rfl) rfl ?_
  refine go_aload_n (q := 1) (gDec iX5_yOf_ok 0 rfl) rfl rfl rfl ?_
  refine go_getr (r' := 11) (q := 4) fX5_29 (gDec iX5_yOf_ok 1 rfl) rfl (by decide) rfl ?_
  refine go_iload_n (q := 5) (gDec iX5_yOf_ok 2 rfl) rfl rfl rfl ?_
  refine go_iload_n (q := 6) (gDec iX5_yOf_ok 3 rfl) rfl rfl rfl ?_
  refine go_iload_n (q := 7) (gDec iX5_yOf_ok 4 rfl) rfl rfl rfl ?_
  refine go_callS (n2 := 0) (q := 10) kX5_51 ctX5_pointIndex (gDec iX5_yOf_ok 5 rfl) rfl rfl (Nat.le_of_ble_eq_true rfl) rfl (gFit_rm (by decide) (by decide)) rfl ?_
  refine go_callV (n2 := 0) (q := 13) kX5_40 (ctX7_get (a := 12) rfl rfl (by decide) (by decide) (by omega) (by decide)) (gDec iX5_yOf_ok 6 rfl) rfl rfl (by decide) rfl rfl rfl (Nat.le_of_ble_eq_true rfl) rfl (gFit_rm (by decide) (by decide)) rfl ?_
  exact go_ireturn (gDec iX5_yOf_ok 7 rfl) rfl rfl rfl rfl (by decide)

set_option maxHeartbeats 4000000 in
set_option maxRecDepth 100000 in
theorem ctX5_setPoint {κ : gK} {σ : gST} {g c p : Nat} {x y : Int32} (hg : g < 24) (hc : c < 3) (hp : p < 12) : gCt κ mX5_setPoint 2 [.ref (κ.2.1 + 2), .int (nI g), .int (nI c), .int (nI p), .int x, .int y] σ (.inl none) (gPut (gPut σ 10 ((g * 3 + c) * 12 + p) x) 12 ((g * 3 + c) * 12 + p) y) 0 := by
  refine ct_of (by decide +kernel) rfl (Nat.le_of_ble_eq_true rfl) rfl ?_
  refine go_aload_n (q := 1) (gDec iX5_setPoint_ok 0 rfl) rfl rfl rfl ?_
  refine go_getr (r' := 9) (q := 4) fX5_26 (gDec iX5_setPoint_ok 1 rfl) rfl (by decide) rfl ?_
  refine go_iload_n (q := 5) (gDec iX5_setPoint_ok 2 rfl) rfl rfl rfl ?_
  refine go_iload_n (q := 6) (gDec iX5_setPoint_ok 3 rfl) rfl rfl rfl ?_
  refine go_iload_n (q := 7) (gDec iX5_setPoint_ok 4 rfl) rfl rfl rfl ?_
  refine go_callS (n2 := 0) (q := 10) kX5_51 ctX5_pointIndex (gDec iX5_setPoint_ok 5 rfl) rfl rfl (Nat.le_of_ble_eq_true rfl) rfl (gFit_rm (by decide) (by decide)) rfl ?_
  refine go_iload (q := 12) (gDec iX5_setPoint_ok 6 rfl) rfl rfl ?_
  refine go_callV (n2 := 0) (q := 15) kX5_44 (ctX7_put (a := 10) rfl rfl (by decide) (by decide) (by omega) (by decide)) (gDec iX5_setPoint_ok 7 rfl) rfl rfl (by decide) rfl rfl rfl (Nat.le_of_ble_eq_true rfl) rfl (gFit_rm (by decide) (by decide)) rfl ?_
  refine go_aload_n (q := 16) (gDec iX5_setPoint_ok 8 rfl) rfl rfl rfl ?_
  refine go_getr (r' := 11) (q := 19) fX5_29 (gDec iX5_setPoint_ok 9 rfl) rfl (by decide) rfl ?_
  refine go_iload_n (q := 20) (gDec iX5_setPoint_ok 10 rfl) rfl rfl rfl ?_
  refine go_iload_n (q := 21) (gDec iX5_setPoint_ok 11 rfl) rfl rfl rfl ?_
  refine go_iload_n (q := 22) (gDec iX5_setPoint_ok 12 rfl) rfl rfl rfl ?_
  refine go_callS (n2 := 0) (q := 25) kX5_51 ctX5_pointIndex (gDec iX5_setPoint_ok 13 rfl) rfl rfl (Nat.le_of_ble_eq_true rfl) rfl (gFit_rm (by decide) (by decide)) rfl ?_
  refine go_iload (q := 27) (gDec iX5_setPoint_ok 14 rfl) rfl rfl ?_
  refine go_callV (n2 := 0) (q := 30) kX5_44 (ctX7_put (a := 12) rfl rfl (by decide) (by decide) (by omega) (by decide)) (gDec iX5_setPoint_ok 15 rfl) rfl rfl (by decide) rfl rfl rfl (Nat.le_of_ble_eq_true rfl) rfl (gFit_rm (by decide) (by decide)) rfl ?_
  exact go_return (gDec iX5_setPoint_ok 16 rfl) rfl rfl rfl (by decide)
