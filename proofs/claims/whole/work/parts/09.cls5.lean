def iX8_copyFrom : List (Nat × Instr × Nat) := [(0, .aload_n 0, 1), (1, .getfield 14, 3), (4, .aload_n 1, 1), (5, .getfield 14, 3), (8, .invokevirtual 26, 3), (11, .aload_n 0, 1), (12, .getfield 20, 3), (15, .aload_n 1, 1), (16, .getfield 20, 3), (19, .invokevirtual 26, 3), (22, .aload_n 0, 1), (23, .getfield 23, 3), (26, .aload_n 1, 1), (27, .getfield 23, 3), (30, .invokevirtual 26, 3), (33, .return_, 1)]
theorem iX8_copyFrom_ok : gDecs mX8_copyFrom iX8_copyFrom := by decide +kernel
def iX8_countOf : List (Nat × Instr × Nat) := [(0, .aload_n 0, 1), (1, .getfield 14, 3), (4, .iload_n 1, 1), (5, .invokevirtual 30, 3), (8, .ireturn, 1)]
theorem iX8_countOf_ok : gDecs mX8_countOf iX8_countOf := by decide +kernel
def iX8_leftOf : List (Nat × Instr × Nat) := [(0, .aload_n 0, 1), (1, .getfield 20, 3), (4, .iload_n 1, 1), (5, .iconst 4, 1), (6, .imul, 1), (7, .iload_n 2, 1), (8, .iadd, 1), (9, .invokevirtual 30, 3), (12, .ireturn, 1)]
theorem iX8_leftOf_ok : gDecs mX8_leftOf iX8_leftOf := by decide +kernel
def iX8_rightOf : List (Nat × Instr × Nat) := [(0, .aload_n 0, 1), (1, .getfield 23, 3), (4, .iload_n 1, 1), (5, .iconst 4, 1), (6, .imul, 1), (7, .iload_n 2, 1), (8, .iadd, 1), (9, .invokevirtual 30, 3), (12, .ireturn, 1)]
theorem iX8_rightOf_ok : gDecs mX8_rightOf iX8_rightOf := by decide +kernel
def iX8_put : List (Nat × Instr × Nat) := [(0, .aload_n 0, 1), (1, .getfield 20, 3), (4, .iload_n 1, 1), (5, .iconst 4, 1), (6, .imul, 1), (7, .iload_n 2, 1), (8, .iadd, 1), (9, .iload_n 3, 1), (10, .invokevirtual 34, 3), (13, .aload_n 0, 1), (14, .getfield 23, 3), (17, .iload_n 1, 1), (18, .iconst 4, 1), (19, .imul, 1), (20, .iload_n 2, 1), (21, .iadd, 1), (22, .iload 4, 2), (24, .invokevirtual 34, 3), (27, .return_, 1)]
theorem iX8_put_ok : gDecs mX8_put iX8_put := by decide +kernel
def iX8_isTaken : List (Nat × Instr × Nat) := [(0, .iconst 0, 1), (1, .istore 4, 2), (3, .iload 4, 2), (5, .aload_n 0, 1), (6, .iload_n 1, 1), (7, .invokevirtual 37, 3), (10, .if_icmp .ge 33, 3), (13, .iload_n 2, 1), (14, .aload_n 0, 1), (15, .iload_n 1, 1), (16, .iload 4, 2), (18, .invokevirtual 40, 3), (21, .if_icmp .gt 16, 3), (24, .iload_n 3, 1), (25, .aload_n 0, 1), (26, .iload_n 1, 1), (27, .iload 4, 2), (29, .invokevirtual 44, 3), (32, .if_icmp .lt 5, 3), (35, .iconst 1, 1), (36, .ireturn, 1), (37, .iinc 4 1, 3), (40, .goto (-37), 3), (43, .iconst 0, 1), (44, .ireturn, 1)]
theorem iX8_isTaken_ok : gDecs mX8_isTaken iX8_isTaken := by decide +kernel
def iX8_insert : List (Nat × Instr × Nat) := [(0, .aload_n 0, 1), (1, .iload_n 1, 1), (2, .invokevirtual 37, 3), (5, .istore 4, 2), (7, .iload 4, 2), (9, .ifCond .le 47, 3), (12, .aload_n 0, 1), (13, .iload_n 1, 1), (14, .iload 4, 2), (16, .iconst 1, 1), (17, .isub, 1), (18, .invokevirtual 44, 3), (21, .iload_n 2, 1), (22, .if_icmp .le 34, 3), (25, .aload_n 0, 1), (26, .iload_n 1, 1), (27, .iload 4, 2), (29, .aload_n 0, 1), (30, .iload_n 1, 1), (31, .iload 4, 2), (33, .iconst 1, 1), (34, .isub, 1), (35, .invokevirtual 44, 3), (38, .aload_n 0, 1), (39, .iload_n 1, 1), (40, .iload 4, 2), (42, .iconst 1, 1), (43, .isub, 1), (44, .invokevirtual 40, 3), (47, .invokevirtual 47, 3), (50, .iinc 4 (-1), 3), (53, .goto (-46), 3), (56, .aload_n 0, 1), (57, .iload_n 1, 1), (58, .iload 4, 2), (60, .iload_n 2, 1), (61, .iload_n 3, 1), (62, .invokevirtual 47, 3), (65, .aload_n 0, 1), (66, .getfield 14, 3), (69, .iload_n 1, 1), (70, .aload_n 0, 1), (71, .iload_n 1, 1), (72, .invokevirtual 37, 3), (75, .iconst 1, 1), (76, .iadd, 1), (77, .invokevirtual 34, 3), (80, .iload 4, 2), (82, .ireturn, 1)]
theorem iX8_insert_ok : gDecs mX8_insert iX8_insert := by decide +kernel
def iX8_takeOut : List (Nat × Instr × Nat) := [(0, .aload_n 0, 1), (1, .iload_n 1, 1), (2, .iload_n 2, 1), (3, .invokevirtual 40, 3), (6, .aload_n 0, 1), (7, .iload_n 1, 1), (8, .iload_n 2, 1), (9, .invokevirtual 44, 3), (12, .isub, 1), (13, .istore_n 3, 1), (14, .iload_n 2, 1), (15, .iconst 1, 1), (16, .iadd, 1), (17, .istore 4, 2), (19, .iload 4, 2), (21, .aload_n 0, 1), (22, .iload_n 1, 1), (23, .invokevirtual 37, 3), (26, .if_icmp .ge 32, 3), (29, .aload_n 0, 1), (30, .iload_n 1, 1), (31, .iload 4, 2), (33, .iconst 1, 1), (34, .isub, 1), (35, .aload_n 0, 1), (36, .iload_n 1, 1), (37, .iload 4, 2), (39, .invokevirtual 44, 3), (42, .aload_n 0, 1), (43, .iload_n 1, 1), (44, .iload 4, 2), (46, .invokevirtual 40, 3), (49, .invokevirtual 47, 3), (52, .iinc 4 1, 3), (55, .goto (-36), 3), (58, .aload_n 0, 1), (59, .getfield 14, 3), (62, .iload_n 1, 1), (63, .aload_n 0, 1), (64, .iload_n 1, 1), (65, .invokevirtual 37, 3), (68, .iconst 1, 1), (69, .isub, 1), (70, .invokevirtual 34, 3), (73, .iload_n 3, 1), (74, .ireturn, 1)]
theorem iX8_takeOut_ok : gDecs mX8_takeOut iX8_takeOut := by decide +kernel
def iX8_sum : List (Nat × Instr × Nat) := [(0, .iconst 0, 1), (1, .istore_n 1, 1), (2, .iconst 0, 1), (3, .istore_n 2, 1), (4, .iload_n 2, 1), (5, .bipush 24, 2), (7, .if_icmp .ge 17, 3), (10, .iload_n 1, 1), (11, .aload_n 0, 1), (12, .iload_n 2, 1), (13, .invokevirtual 37, 3), (16, .iadd, 1), (17, .istore_n 1, 1), (18, .iinc 2 1, 3), (21, .goto (-17), 3), (24, .iload_n 1, 1), (25, .ireturn, 1)]
theorem iX8_sum_ok : gDecs mX8_sum iX8_sum := by decide +kernel
def iX8_placeOn : List (Nat × Instr × Nat) := [(0, .iconst 0, 1), (1, .istore 4, 2), (3, .iconst 0, 1), (4, .istore 5, 2), (6, .iconst 0, 1), (7, .istore 6, 2), (9, .iload 6, 2), (11, .aload_n 0, 1), (12, .iload_n 1, 1), (13, .invokevirtual 37, 3), (16, .if_icmp .ge 121, 3), (19, .aload_n 0, 1), (20, .iload_n 1, 1), (21, .iload 6, 2), (23, .invokevirtual 44, 3), (26, .istore 7, 2), (28, .aload_n 0, 1), (29, .iload_n 1, 1), (30, .iload 6, 2), (32, .invokevirtual 40, 3), (35, .istore 8, 2), (37, .iload 7, 2), (39, .iload_n 2, 1), (40, .invokestatic 50, 3), (43, .istore 9, 2), (45, .iload 6, 2), (47, .ifCond .le 14, 3), (50, .iload 9, 2), (52, .iload 4, 2), (54, .iconst 1, 1), (55, .iadd, 1), (56, .invokestatic 53, 3), (59, .istore 9, 2), (61, .iload 9, 2), (63, .iload 8, 2), (65, .iload 7, 2), (67, .isub, 1), (68, .iload_n 2, 1), (69, .invokestatic 50, 3), (72, .iconst 1, 1), (73, .invokestatic 53, 3), (76, .iadd, 1), (77, .istore 4, 2), (79, .iload_n 3, 1), (80, .iload 7, 2), (82, .if_icmp .ne 6, 3), (85, .iload 9, 2), (87, .ireturn, 1), (88, .iload_n 3, 1), (89, .iload 8, 2), (91, .if_icmp .ne 6, 3), (94, .iload 4, 2), (96, .ireturn, 1), (97, .iload 7, 2), (99, .iload_n 3, 1), (100, .if_icmp .ge 14, 3), (103, .iload 9, 2), (105, .iload 7, 2), (107, .iload_n 2, 1), (108, .invokestatic 50, 3), (111, .isub, 1), (112, .istore 5, 2), (114, .iload 8, 2), (116, .iload_n 3, 1), (117, .if_icmp .ge 14, 3), (120, .iload 4, 2), (122, .iload 8, 2), (124, .iload_n 2, 1), (125, .invokestatic 50, 3), (128, .isub, 1), (129, .istore 5, 2), (131, .iinc 6 1, 3), (134, .goto (-125), 3), (137, .iload_n 3, 1), (138, .iload_n 2, 1), (139, .invokestatic 50, 3), (142, .iload 5, 2), (144, .iadd, 1), (145, .ireturn, 1)]
theorem iX8_placeOn_ok : gDecs mX8_placeOn iX8_placeOn := by decide +kernel
def iX8_rounded : List (Nat × Instr × Nat) := [(0, .iload_n 0, 1), (1, .iload_n 1, 1), (2, .imul, 1), (3, .sipush 500, 3), (6, .iadd, 1), (7, .sipush 1000, 3), (10, .invokestatic 58, 3), (13, .ireturn, 1)]
theorem iX8_rounded_ok : gDecs mX8_rounded iX8_rounded := by decide +kernel
def iJ9_floorDiv_7cf53 : List (Nat × Instr × Nat) := [(0, .iload_n 0, 1), (1, .iload_n 1, 1), (2, .idiv, 1), (3, .istore_n 2, 1), (4, .iload_n 0, 1), (5, .iload_n 1, 1), (6, .ixor, 1), (7, .ifCond .ge 14, 3), (10, .iload_n 2, 1), (11, .iload_n 1, 1), (12, .imul, 1), (13, .iload_n 0, 1), (14, .if_icmp .eq 7, 3), (17, .iload_n 2, 1), (18, .iconst 1, 1), (19, .isub, 1), (20, .ireturn, 1), (21, .iload_n 2, 1), (22, .ireturn, 1)]
theorem iJ9_floorDiv_7cf53_ok : gDecs mJ9_floorDiv_7cf53 iJ9_floorDiv_7cf53 := by decide +kernel

set_option maxHeartbeats 4000000 in
set_option maxRecDepth 100000 in
theorem ctX0_followerCount {κ : gK} {σ : gST} {g t : Nat} {ld : Nat → Option Nat} (hg : g < 24) (ht : t < 2) (hl : ∀ a, a < 48 → σ.1 17 a = lI (ld a)) (hb : ∀ a b, a < 48 → ld a = some b → b < 48) : gCt κ mX0_followerCount 2 [.ref (κ.2.1 + 13), .int (nI g), .int (nI t)] σ (.inl (some (.int (gLoop (fun at_ a => if at_ = g * 2 + t then a else a + bI (gLd ld (g * 2 + t) 49 (some at_))) 0 48 0)))) σ 0 := by
  refine ct_of (by decide +kernel) rfl (Nat.le_of_ble_eq_true rfl) rfl ?_
  refine go_iload_n (q := 1) (gDec iX0_followerCount_ok 0 rfl) rfl rfl rfl ?_
  refine go_iload_n (q := 2) (gDec iX0_followerCount_ok 1 rfl) rfl rfl rfl ?_
  refine go_callS (n2 := 0) (q := 5) kX0_30 ctX0_index (gDec iX0_followerCount_ok 2 rfl) rfl rfl (Nat.le_of_ble_eq_true rfl) rfl (gFit_rm (by decide) (by decide)) rfl ?_
  refine go_istore_n (q := 6) (gDec iX0_followerCount_ok 3 rfl) rfl (by decide) rfl ?_
  refine go_iconst (v := 0) (q := 7) (gDec iX0_followerCount_ok 4 rfl) (by decide) rfl ?_
  refine go_istore (q := 9) (gDec iX0_followerCount_ok 5 rfl) (by decide) rfl ?_
  refine go_iconst (v := 0) (q := 10) (gDec iX0_followerCount_ok 6 rfl) (by decide) rfl ?_
  refine go_istore (q := 12) (gDec iX0_followerCount_ok 7 rfl) (by decide) rfl ?_
  refine go_sub (L' := [(0, .ref (κ.2.1 + 13)), (1, .int (nI g)), (2, .int (nI t)), (3, .int (nI (g * 2 + t))), (4, .int 0), (5, .int (nI 0))]) ⟨rfl, rfl, rfl, rfl, rfl, rfl, trivial⟩ ?_
  refine lpX0_followerCount (by omega) hl hb 48 0 0 rfl ?_
  refine go_iload (q := 46) (gDec iX0_followerCount_ok 22 rfl) rfl rfl ?_
  exact go_ireturn (gDec iX0_followerCount_ok 23 rfl) rfl rfl rfl rfl (by decide)

set_option maxHeartbeats 4000000 in
set_option maxRecDepth 100000 in
theorem lpX0_ruleSum {κ : gK} {Z : gZ} {σ : gST} {ld : Nat → Option Nat} (hl : ∀ a, a < 48 → σ.1 17 a = lI (ld a)) (hb : ∀ a b, a < 48 → ld a = some b → b < 48) : ∀ (m i : Nat) (a : Int32), i + m = 48 → Go κ mX0_ruleSum (gRm 1 0) Z 31 [(0, .ref (κ.2.1 + 13)), (1, .int (gLoop (fun at_ a => if ld at_ = none then a else a + 1) i m a)), (2, .int (nI 48))] [] σ 0 → Go κ mX0_ruleSum (gRm 1 0) Z 4 [(0, .ref (κ.2.1 + 13)), (1, .int a), (2, .int (nI i))] [] σ 0 := by
  intro m
  induction m with
  | zero =>
    intro i a hi h
    have hiN : 48 = i := by omega
    rw [hiN] at h
    refine go_iload_n (q := 5) (gDec iX0_ruleSum_ok 4 rfl) rfl rfl rfl ?_
    refine go_bipush (v := 48) (q := 7) (gDec iX0_ruleSum_ok 5 rfl) (by decide) rfl ?_
    refine go_icmp_ge (t := 31) (q := 10) (gDec iX0_ruleSum_ok 6 rfl) (by decide) rfl (fun c7 => ?_) (fun c7 => False.elim (c7 (nI_le (a := 48) (b := i) (by omega) (by omega))))
    refine go_sub (L' := [(0, .ref (κ.2.1 + 13)), (1, .int a), (2, .int (nI i))]) ⟨rfl, rfl, rfl, trivial⟩ ?_
    exact h
  | succ m ih =>
    intro i a hi h
    have hla := hl i (by omega)
    refine go_iload_n (q := 5) (gDec iX0_ruleSum_ok 4 rfl) rfl rfl rfl ?_
    refine go_bipush (v := 48) (q := 7) (gDec iX0_ruleSum_ok 5 rfl) (by decide) rfl ?_
    refine go_icmp_ge (t := 31) (q := 10) (gDec iX0_ruleSum_ok 6 rfl) (by decide) rfl (fun c7 => False.elim (nI_ge (a := i) (b := 48) (by omega) (by decide) c7)) (fun c7 => ?_)
    refine go_aload_n (q := 11) (gDec iX0_ruleSum_ok 7 rfl) rfl rfl rfl ?_
    refine go_getr (r' := 16) (q := 14) fX0_20 (gDec iX0_ruleSum_ok 8 rfl) rfl (by decide) rfl ?_
    refine go_iload_n (q := 15) (gDec iX0_ruleSum_ok 9 rfl) rfl rfl rfl ?_
    refine go_callV (n2 := 0) (q := 18) kX0_37 (ctX7_get (a := 17) rfl rfl (by decide) (by decide) (by omega) (by decide)) (gDec iX0_ruleSum_ok 10 rfl) rfl rfl (by decide) rfl rfl rfl (Nat.le_of_ble_eq_true rfl) rfl (gFit_rm (by decide) (by decide)) rfl ?_
    refine go_iconst (v := (-1)) (q := 19) (gDec iX0_ruleSum_ok 11 rfl) (by decide) rfl ?_
    refine go_icmp_eq (t := 25) (q := 22) (gDec iX0_ruleSum_ok 12 rfl) (by decide) rfl (fun c19 => ?_) (fun c19 => ?_)
    · refine go_iinc (v := nI (i + 1)) (q := 28) (gDec iX0_ruleSum_ok 14 rfl) rfl (nI_1 i) (by decide) rfl ?_
      refine go_goto (t := 4) (gDec iX0_ruleSum_ok 15 rfl) (by decide) ?_
      refine go_sub (L' := [(0, .ref (κ.2.1 + 13)), (1, .int ((fun at_ a => if ld at_ = none then a else a + 1) i a)), (2, .int (nI (i + 1)))]) ⟨rfl, (by first | (show _ = some (Value.int _); simp only [show ld i = none from (by cases h9 : ld i with | none => rfl | some b => rw [h9] at hla; exact absurd (hla.symm.trans c19) (lI_some (hb i b (by omega) h9))), if_true]; rfl) | (show _ = some (Value.int _); simp only [show ¬ ld i = none from (fun h9 => c19 (hla.trans (by rw [h9]; rfl))), if_false]; rfl)), rfl, trivial⟩ ?_
      exact ih (i + 1) _ (by omega) h
    · refine go_iinc (q := 25) (gDec iX0_ruleSum_ok 13 rfl) rfl rfl (by decide) rfl ?_
      refine go_iinc (v := nI (i + 1)) (q := 28) (gDec iX0_ruleSum_ok 14 rfl) rfl (nI_1 i) (by decide) rfl ?_
      refine go_goto (t := 4) (gDec iX0_ruleSum_ok 15 rfl) (by decide) ?_
      refine go_sub (L' := [(0, .ref (κ.2.1 + 13)), (1, .int ((fun at_ a => if ld at_ = none then a else a + 1) i a)), (2, .int (nI (i + 1)))]) ⟨rfl, (by first | (show _ = some (Value.int _); simp only [show ld i = none from (by cases h9 : ld i with | none => rfl | some b => rw [h9] at hla; exact absurd (hla.symm.trans c19) (lI_some (hb i b (by omega) h9))), if_true]; rfl) | (show _ = some (Value.int _); simp only [show ¬ ld i = none from (fun h9 => c19 (hla.trans (by rw [h9]; rfl))), if_false]; rfl)), rfl, trivial⟩ ?_
      exact ih (i + 1) _ (by omega) h

set_option maxHeartbeats 4000000 in
set_option maxRecDepth 100000 in
theorem ctX0_ruleSum {κ : gK} {σ : gST} {ld : Nat → Option Nat} (hl : ∀ a, a < 48 → σ.1 17 a = lI (ld a)) (hb : ∀ a b, a < 48 → ld a = some b → b < 48) : gCt κ mX0_ruleSum 1 [.ref (κ.2.1 + 13)] σ (.inl (some (.int (gLoop (fun at_ a => if ld at_ = none then a else a + 1) 0 48 0)))) σ 0 := by
  refine ct_of (by decide +kernel) rfl (Nat.le_of_ble_eq_true rfl) rfl ?_
  refine go_iconst (v := 0) (q := 1) (gDec iX0_ruleSum_ok 0 rfl) (by decide) rfl ?_
  refine go_istore_n (q := 2) (gDec iX0_ruleSum_ok 1 rfl) rfl (by decide) rfl ?_
  refine go_iconst (v := 0) (q := 3) (gDec iX0_ruleSum_ok 2 rfl) (by decide) rfl ?_
  refine go_istore_n (q := 4) (gDec iX0_ruleSum_ok 3 rfl) rfl (by decide) rfl ?_
  refine go_sub (L' := [(0, .ref (κ.2.1 + 13)), (1, .int 0), (2, .int (nI 0))]) ⟨rfl, rfl, rfl, trivial⟩ ?_
  refine lpX0_ruleSum hl hb 48 0 0 rfl ?_
  refine go_iload_n (q := 32) (gDec iX0_ruleSum_ok 16 rfl) rfl rfl rfl ?_
  exact go_ireturn (gDec iX0_ruleSum_ok 17 rfl) rfl rfl rfl rfl (by decide)

set_option maxHeartbeats 4000000 in
set_option maxRecDepth 100000 in
theorem ctX4_classOff {κ : gK} {σ : gST} {g : Nat} (hg : g < 24) : gCt κ mX4_classOf 1 [.ref (κ.2.1 + 20), .int (nI g), .int 1] σ (.inl (some (.int (σ.1 22 g)))) σ 0 := by
  refine ct_of (by decide +kernel) rfl (Nat.le_of_ble_eq_true rfl) rfl ?_
  refine go_iload_n (q := 1) (gDec iX4_classOf_ok 0 rfl) rfl rfl rfl ?_
  refine go_if_eq (t := 15) (q := 4) (gDec iX4_classOf_ok 1 rfl) (by decide) rfl (fun c1 => False.elim (absurd c1 (by decide))) (fun c1 => ?_)
  refine go_aload_n (q := 5) (gDec iX4_classOf_ok 2 rfl) rfl rfl rfl ?_
  refine go_getr (r' := 21) (q := 8) fX4_14 (gDec iX4_classOf_ok 3 rfl) rfl (by decide) rfl ?_
  refine go_iload_n (q := 9) (gDec iX4_classOf_ok 4 rfl) rfl rfl rfl ?_
  refine go_callV (n2 := 0) (q := 12) kX4_40 (ctX7_get (a := 22) rfl rfl (by decide) (by decide) (by omega) (by decide)) (gDec iX4_classOf_ok 5 rfl) rfl rfl (by decide) rfl rfl rfl (Nat.le_of_ble_eq_true rfl) rfl (gFit_rm (by decide) (by decide)) rfl ?_
  refine go_goto (t := 23) (gDec iX4_classOf_ok 6 rfl) (by decide) ?_
  exact go_ireturn (gDec iX4_classOf_ok 11 rfl) rfl rfl rfl rfl (by decide)

set_option maxHeartbeats 4000000 in
set_option maxRecDepth 100000 in
theorem ctX4_putIntoClassf {κ : gK} {σ : gST} {g : Nat} {w : Int32} (hg : g < 24) : gCt κ mX4_putIntoClass 1 [.ref (κ.2.1 + 20), .int (nI g), .int 1, .int w] σ (.inl none) (gPut σ 22 g w) 0 := by
  refine ct_of (by decide +kernel) rfl (Nat.le_of_ble_eq_true rfl) rfl ?_
  refine go_iload_n (q := 1) (gDec iX4_putIntoClass_ok 0 rfl) rfl rfl rfl ?_
  refine go_if_eq (t := 11) (q := 4) (gDec iX4_putIntoClass_ok 1 rfl) (by decide) rfl (fun c1 => False.elim (absurd c1 (by decide))) (fun c1 => ?_)
  refine go_aload_n (q := 5) (gDec iX4_putIntoClass_ok 2 rfl) rfl rfl rfl ?_
  refine go_getr (r' := 21) (q := 8) fX4_14 (gDec iX4_putIntoClass_ok 3 rfl) rfl (by decide) rfl ?_
  refine go_goto (t := 15) (gDec iX4_putIntoClass_ok 4 rfl) (by decide) ?_
  refine go_astore (q := 17) (gDec iX4_putIntoClass_ok 7 rfl) (by decide) rfl ?_
  refine go_aload (q := 19) (gDec iX4_putIntoClass_ok 8 rfl) rfl rfl ?_
  refine go_iload_n (q := 20) (gDec iX4_putIntoClass_ok 9 rfl) rfl rfl rfl ?_
  refine go_iload_n (q := 21) (gDec iX4_putIntoClass_ok 10 rfl) rfl rfl rfl ?_
  refine go_callV (n2 := 0) (q := 24) kX4_44 (ctX7_put (a := 22) rfl rfl (by decide) (by decide) (by omega) (by decide)) (gDec iX4_putIntoClass_ok 11 rfl) rfl rfl (by decide) rfl rfl rfl (Nat.le_of_ble_eq_true rfl) rfl (gFit_rm (by decide) (by decide)) rfl ?_
  exact go_return (gDec iX4_putIntoClass_ok 12 rfl) rfl rfl rfl (by decide)

set_option maxHeartbeats 4000000 in
set_option maxRecDepth 100000 in
theorem ctX4_classOfs {κ : gK} {σ : gST} {g : Nat} (hg : g < 24) : gCt κ mX4_classOf 1 [.ref (κ.2.1 + 20), .int (nI g), .int 0] σ (.inl (some (.int (σ.1 24 g)))) σ 0 := by
  refine ct_of (by decide +kernel) rfl (Nat.le_of_ble_eq_true rfl) rfl ?_
  refine go_iload_n (q := 1) (gDec iX4_classOf_ok 0 rfl) rfl rfl rfl ?_
  refine go_if_eq (t := 15) (q := 4) (gDec iX4_classOf_ok 1 rfl) (by decide) rfl (fun c1 => ?_) (fun c1 => False.elim (c1 rfl))
  refine go_aload_n (q := 16) (gDec iX4_classOf_ok 7 rfl) rfl rfl rfl ?_
  refine go_getr (r' := 23) (q := 19) fX4_20 (gDec iX4_classOf_ok 8 rfl) rfl (by decide) rfl ?_
  refine go_iload_n (q := 20) (gDec iX4_classOf_ok 9 rfl) rfl rfl rfl ?_
  refine go_callV (n2 := 0) (q := 23) kX4_40 (ctX7_get (a := 24) rfl rfl (by decide) (by decide) (by omega) (by decide)) (gDec iX4_classOf_ok 10 rfl) rfl rfl (by decide) rfl rfl rfl (Nat.le_of_ble_eq_true rfl) rfl (gFit_rm (by decide) (by decide)) rfl ?_
  exact go_ireturn (gDec iX4_classOf_ok 11 rfl) rfl rfl rfl rfl (by decide)

set_option maxHeartbeats 4000000 in
set_option maxRecDepth 100000 in
theorem ctX4_putIntoClasss {κ : gK} {σ : gST} {g : Nat} {w : Int32} (hg : g < 24) : gCt κ mX4_putIntoClass 1 [.ref (κ.2.1 + 20), .int (nI g), .int 0, .int w] σ (.inl none) (gPut σ 24 g w) 0 := by
  refine ct_of (by decide +kernel) rfl (Nat.le_of_ble_eq_true rfl) rfl ?_
  refine go_iload_n (q := 1) (gDec iX4_putIntoClass_ok 0 rfl) rfl rfl rfl ?_
  refine go_if_eq (t := 11) (q := 4) (gDec iX4_putIntoClass_ok 1 rfl) (by decide) rfl (fun c1 => ?_) (fun c1 => False.elim (c1 rfl))
  refine go_aload_n (q := 12) (gDec iX4_putIntoClass_ok 5 rfl) rfl rfl rfl ?_
  refine go_getr (r' := 23) (q := 15) fX4_20 (gDec iX4_putIntoClass_ok 6 rfl) rfl (by decide) rfl ?_
  refine go_astore (q := 17) (gDec iX4_putIntoClass_ok 7 rfl) (by decide) rfl ?_
  refine go_aload (q := 19) (gDec iX4_putIntoClass_ok 8 rfl) rfl rfl ?_
  refine go_iload_n (q := 20) (gDec iX4_putIntoClass_ok 9 rfl) rfl rfl rfl ?_
  refine go_iload_n (q := 21) (gDec iX4_putIntoClass_ok 10 rfl) rfl rfl rfl ?_
  refine go_callV (n2 := 0) (q := 24) kX4_44 (ctX7_put (a := 24) rfl rfl (by decide) (by decide) (by omega) (by decide)) (gDec iX4_putIntoClass_ok 11 rfl) rfl rfl (by decide) rfl rfl rfl (Nat.le_of_ble_eq_true rfl) rfl (gFit_rm (by decide) (by decide)) rfl ?_
  exact go_return (gDec iX4_putIntoClass_ok 12 rfl) rfl rfl rfl (by decide)

/-- both are classes (or glyph places) -/
def gIn2 (n : Int) (a b : Int32) : Prop := (0 ≤ a.toInt ∧ a.toInt ≤ n) ∧ (0 ≤ b.toInt ∧ b.toInt ≤ n)
theorem gIn2_nI {n a b : Nat} (ha : a ≤ n) (hb : b ≤ n) (hn : n < 2 ^ 31) : gIn2 n (nI a) (nI b) := by
  unfold gIn2
  rw [nI_toInt (by omega), nI_toInt (by omega)]
  omega
theorem gIn2_ex {n : Nat} {a b : Int32} (h : gIn2 n a b) : ∃ x y : Nat, x ≤ n ∧ y ≤ n ∧ a = nI x ∧ b = nI y := by
  obtain ⟨x, h1, h2⟩ := nI_ex h.1
  obtain ⟨y, h3, h4⟩ := nI_ex h.2
  exact ⟨x, y, h1, h3, h2, h4⟩

set_option maxHeartbeats 4000000 in
set_option maxRecDepth 100000 in
theorem ctX4_areClasses {κ : gK} {σ : gST} {a b : Int32} (hh : gIn2 5 a b) : gCt κ mX4_areClasses 1 [.int a, .int b] σ (.inl (some (.int 1))) σ 0 := by
  refine ct_of (by decide +kernel) rfl (Nat.le_of_ble_eq_true rfl) rfl ?_
  refine go_iload_n (q := 1) (gDec iX4_areClasses_ok 0 rfl) rfl rfl rfl ?_
  refine go_i2l (q := 2) (gDec iX4_areClasses_ok 1 rfl) rfl ?_
  refine go_lconst (v := 0) (q := 3) (gDec iX4_areClasses_ok 2 rfl) (by decide) rfl ?_
  refine go_ldc2 (q := 6) wX4_47 (gDec iX4_areClasses_ok 3 rfl) rfl ?_
  refine go_callN (n2 := 0) (q := 9) kX4_49 ctX10_isWithin (gDec iX4_areClasses_ok 4 rfl) rfl rfl (Nat.le_of_ble_eq_true rfl) rfl (gFit_rm (by decide) (by decide)) rfl ?_
  refine go_if_eq (t := 28) (q := 12) (gDec iX4_areClasses_ok 5 rfl) (by decide) rfl (fun c9 => False.elim ((gWi_0 c9 (by rw [i2l_toInt]; exact hh.1)))) (fun c9 => ?_)
  refine go_iload_n (q := 13) (gDec iX4_areClasses_ok 6 rfl) rfl rfl rfl ?_
  refine go_i2l (q := 14) (gDec iX4_areClasses_ok 7 rfl) rfl ?_
  refine go_lconst (v := 0) (q := 15) (gDec iX4_areClasses_ok 8 rfl) (by decide) rfl ?_
  refine go_ldc2 (q := 18) wX4_47 (gDec iX4_areClasses_ok 9 rfl) rfl ?_
  refine go_callN (n2 := 0) (q := 21) kX4_49 ctX10_isWithin (gDec iX4_areClasses_ok 10 rfl) rfl rfl (Nat.le_of_ble_eq_true rfl) rfl (gFit_rm (by decide) (by decide)) rfl ?_
  refine go_if_eq (t := 28) (q := 24) (gDec iX4_areClasses_ok 11 rfl) (by decide) rfl (fun c21 => False.elim ((gWi_0 c21 (by rw [i2l_toInt]; exact hh.2)))) (fun c21 => ?_)
  refine go_iconst (v := 1) (q := 25) (gDec iX4_areClasses_ok 12 rfl) (by decide) rfl ?_
  refine go_goto (t := 29) (gDec iX4_areClasses_ok 13 rfl) (by decide) ?_
  exact go_ireturn (gDec iX4_areClasses_ok 15 rfl) rfl rfl rfl rfl (by decide)

set_option maxHeartbeats 4000000 in
set_option maxRecDepth 100000 in
theorem ctX4_areClasses0 {κ : gK} {σ : gST} {a b : Int32} (hh : ¬ gIn2 5 a b) : gCt κ mX4_areClasses 1 [.int a, .int b] σ (.inl (some (.int 0))) σ 0 := by
  refine ct_of (by decide +kernel) rfl (Nat.le_of_ble_eq_true rfl) rfl ?_
  refine go_iload_n (q := 1) (gDec iX4_areClasses_ok 0 rfl) rfl rfl rfl ?_
  refine go_i2l (q := 2) (gDec iX4_areClasses_ok 1 rfl) rfl ?_
  refine go_lconst (v := 0) (q := 3) (gDec iX4_areClasses_ok 2 rfl) (by decide) rfl ?_
  refine go_ldc2 (q := 6) wX4_47 (gDec iX4_areClasses_ok 3 rfl) rfl ?_
  refine go_callN (n2 := 0) (q := 9) kX4_49 ctX10_isWithin (gDec iX4_areClasses_ok 4 rfl) rfl rfl (Nat.le_of_ble_eq_true rfl) rfl (gFit_rm (by decide) (by decide)) rfl ?_
  refine go_if_eq (t := 28) (q := 12) (gDec iX4_areClasses_ok 5 rfl) (by decide) rfl (fun c9 => ?_) (fun c9 => ?_)
  · refine go_iconst (v := 0) (q := 29) (gDec iX4_areClasses_ok 14 rfl) (by decide) rfl ?_
    exact go_ireturn (gDec iX4_areClasses_ok 15 rfl) rfl rfl rfl rfl (by decide)
  · refine go_iload_n (q := 13) (gDec iX4_areClasses_ok 6 rfl) rfl rfl rfl ?_
    refine go_i2l (q := 14) (gDec iX4_areClasses_ok 7 rfl) rfl ?_
    refine go_lconst (v := 0) (q := 15) (gDec iX4_areClasses_ok 8 rfl) (by decide) rfl ?_
    refine go_ldc2 (q := 18) wX4_47 (gDec iX4_areClasses_ok 9 rfl) rfl ?_
    refine go_callN (n2 := 0) (q := 21) kX4_49 ctX10_isWithin (gDec iX4_areClasses_ok 10 rfl) rfl rfl (Nat.le_of_ble_eq_true rfl) rfl (gFit_rm (by decide) (by decide)) rfl ?_
    refine go_if_eq (t := 28) (q := 24) (gDec iX4_areClasses_ok 11 rfl) (by decide) rfl (fun c21 => ?_) (fun c21 => False.elim (hh ⟨by have h9 := gWi_1 c9; rw [i2l_toInt] at h9; exact h9, by have h9 := gWi_1 c21; rw [i2l_toInt] at h9; exact h9⟩))
    refine go_iconst (v := 0) (q := 29) (gDec iX4_areClasses_ok 14 rfl) (by decide) rfl ?_
    exact go_ireturn (gDec iX4_areClasses_ok 15 rfl) rfl rfl rfl rfl (by decide)

set_option maxHeartbeats 4000000 in
set_option maxRecDepth 100000 in
theorem ctX4_isClassKernTold {κ : gK} {σ : gST} {a b : Nat} (ha : a < 6) (hb : b < 6) : gCt κ mX4_isClassKernTold 2 [.ref (κ.2.1 + 20), .int (nI a), .int (nI b)] σ (.inl (some (.int (if σ.1 26 (a * 6 + b) = 301 then 0 else 1)))) σ 0 := by
  refine ct_of (by decide +kernel) rfl (Nat.le_of_ble_eq_true rfl) rfl ?_
  refine go_iload_n (q := 1) (gDec iX4_isClassKernTold_ok 0 rfl) rfl rfl rfl ?_
  refine go_iload_n (q := 2) (gDec iX4_isClassKernTold_ok 1 rfl) rfl rfl rfl ?_
  refine go_callS (n2 := 0) (q := 5) kX4_53 (ctX4_areClasses (gIn2_nI (n := 5) (by omega) (by omega) (by decide))) (gDec iX4_isClassKernTold_ok 2 rfl) rfl rfl (Nat.le_of_ble_eq_true rfl) rfl (gFit_rm (by decide) (by decide)) rfl ?_
  refine go_if_eq (t := 31) (q := 8) (gDec iX4_isClassKernTold_ok 3 rfl) (by decide) rfl (fun c5 => False.elim (absurd c5 (by decide))) (fun c5 => ?_)
  refine go_aload_n (q := 9) (gDec iX4_isClassKernTold_ok 4 rfl) rfl rfl rfl ?_
  refine go_getr (r' := 25) (q := 12) fX4_23 (gDec iX4_isClassKernTold_ok 5 rfl) rfl (by decide) rfl ?_
  refine go_iload_n (q := 13) (gDec iX4_isClassKernTold_ok 6 rfl) rfl rfl rfl ?_
  refine go_bipush (v := 6) (q := 15) (gDec iX4_isClassKernTold_ok 7 rfl) (by decide) rfl ?_
  refine go_imul (q := 16) (gDec iX4_isClassKernTold_ok 8 rfl) rfl ?_
  refine go_iload_n (q := 17) (gDec iX4_isClassKernTold_ok 9 rfl) rfl rfl rfl ?_
  refine go_iadd (q := 18) (gDec iX4_isClassKernTold_ok 10 rfl) rfl ?_
  refine go_top (v' := nI (a * 6 + b)) (by rw [show (6 : Int32) = nI 6 from rfl, nI_mul, nI_add]) ?_
  refine go_callV (n2 := 0) (q := 21) kX4_40 (ctX7_get (a := 26) rfl rfl (by decide) (by decide) (by omega) (by decide)) (gDec iX4_isClassKernTold_ok 11 rfl) rfl rfl (by decide) rfl rfl rfl (Nat.le_of_ble_eq_true rfl) rfl (gFit_rm (by decide) (by decide)) rfl ?_
  refine go_sipush (v := 301) (q := 24) (gDec iX4_isClassKernTold_ok 12 rfl) (by decide) rfl ?_
  refine go_icmp_eq (t := 31) (q := 27) (gDec iX4_isClassKernTold_ok 13 rfl) (by decide) rfl (fun c24 => ?_) (fun c24 => ?_)
  · refine go_iconst (v := 0) (q := 32) (gDec iX4_isClassKernTold_ok 16 rfl) (by decide) rfl ?_
    exact go_ireturn (gDec iX4_isClassKernTold_ok 17 rfl) rfl rfl (by first | rw [if_pos c24] | rw [if_neg c24]) rfl (by decide)
  · refine go_iconst (v := 1) (q := 28) (gDec iX4_isClassKernTold_ok 14 rfl) (by decide) rfl ?_
    refine go_goto (t := 32) (gDec iX4_isClassKernTold_ok 15 rfl) (by decide) ?_
    exact go_ireturn (gDec iX4_isClassKernTold_ok 17 rfl) rfl rfl (by first | rw [if_pos c24] | rw [if_neg c24]) rfl (by decide)

set_option maxHeartbeats 4000000 in
set_option maxRecDepth 100000 in
theorem ctX4_isClassKernTold0 {κ : gK} {σ : gST} {a b : Int32} (hh : ¬ gIn2 5 a b) : gCt κ mX4_isClassKernTold 2 [.ref (κ.2.1 + 20), .int a, .int b] σ (.inl (some (.int 0))) σ 0 := by
  refine ct_of (by decide +kernel) rfl (Nat.le_of_ble_eq_true rfl) rfl ?_
  refine go_iload_n (q := 1) (gDec iX4_isClassKernTold_ok 0 rfl) rfl rfl rfl ?_
  refine go_iload_n (q := 2) (gDec iX4_isClassKernTold_ok 1 rfl) rfl rfl rfl ?_
  refine go_callS (n2 := 0) (q := 5) kX4_53 (ctX4_areClasses0 hh) (gDec iX4_isClassKernTold_ok 2 rfl) rfl rfl (Nat.le_of_ble_eq_true rfl) rfl (gFit_rm (by decide) (by decide)) rfl ?_
  refine go_if_eq (t := 31) (q := 8) (gDec iX4_isClassKernTold_ok 3 rfl) (by decide) rfl (fun c5 => ?_) (fun c5 => False.elim (c5 rfl))
  refine go_iconst (v := 0) (q := 32) (gDec iX4_isClassKernTold_ok 16 rfl) (by decide) rfl ?_
  exact go_ireturn (gDec iX4_isClassKernTold_ok 17 rfl) rfl rfl rfl rfl (by decide)

set_option maxHeartbeats 4000000 in
set_option maxRecDepth 100000 in
theorem ctX4_isPairTold {κ : gK} {σ : gST} {a b : Nat} (ha : a < 24) (hb : b < 24) : gCt κ mX4_isPairTold 1 [.ref (κ.2.1 + 20), .int (nI a), .int (nI b)] σ (.inl (some (.int (if σ.1 28 (a * 24 + b) = 301 then 0 else 1)))) σ 0 := by
  have hh : gIn2 23 (nI a) (nI b) := gIn2_nI (n := 23) (by omega) (by omega) (by decide)
  refine ct_of (by decide +kernel) rfl (Nat.le_of_ble_eq_true rfl) rfl ?_
  refine go_iload_n (q := 1) (gDec iX4_isPairTold_ok 0 rfl) rfl rfl rfl ?_
  refine go_i2l (q := 2) (gDec iX4_isPairTold_ok 1 rfl) rfl ?_
  refine go_lconst (v := 0) (q := 3) (gDec iX4_isPairTold_ok 2 rfl) (by decide) rfl ?_
  refine go_ldc2 (q := 6) wX4_57 (gDec iX4_isPairTold_ok 3 rfl) rfl ?_
  refine go_callN (n2 := 0) (q := 9) kX4_49 ctX10_isWithin (gDec iX4_isPairTold_ok 4 rfl) rfl rfl (Nat.le_of_ble_eq_true rfl) rfl (gFit_rm (by decide) (by decide)) rfl ?_
  refine go_if_eq (t := 47) (q := 12) (gDec iX4_isPairTold_ok 5 rfl) (by decide) rfl (fun c9 => False.elim ((gWi_0 c9 (by rw [i2l_toInt]; exact hh.1)))) (fun c9 => ?_)
  refine go_iload_n (q := 13) (gDec iX4_isPairTold_ok 6 rfl) rfl rfl rfl ?_
  refine go_i2l (q := 14) (gDec iX4_isPairTold_ok 7 rfl) rfl ?_
  refine go_lconst (v := 0) (q := 15) (gDec iX4_isPairTold_ok 8 rfl) (by decide) rfl ?_
  refine go_ldc2 (q := 18) wX4_57 (gDec iX4_isPairTold_ok 9 rfl) rfl ?_
  refine go_callN (n2 := 0) (q := 21) kX4_49 ctX10_isWithin (gDec iX4_isPairTold_ok 10 rfl) rfl rfl (Nat.le_of_ble_eq_true rfl) rfl (gFit_rm (by decide) (by decide)) rfl ?_
  refine go_if_eq (t := 47) (q := 24) (gDec iX4_isPairTold_ok 11 rfl) (by decide) rfl (fun c21 => False.elim ((gWi_0 c21 (by rw [i2l_toInt]; exact hh.2)))) (fun c21 => ?_)
  refine go_aload_n (q := 25) (gDec iX4_isPairTold_ok 12 rfl) rfl rfl rfl ?_
  refine go_getr (r' := 27) (q := 28) fX4_26 (gDec iX4_isPairTold_ok 13 rfl) rfl (by decide) rfl ?_
  refine go_iload_n (q := 29) (gDec iX4_isPairTold_ok 14 rfl) rfl rfl rfl ?_
  refine go_bipush (v := 24) (q := 31) (gDec iX4_isPairTold_ok 15 rfl) (by decide) rfl ?_
  refine go_imul (q := 32) (gDec iX4_isPairTold_ok 16 rfl) rfl ?_
  refine go_iload_n (q := 33) (gDec iX4_isPairTold_ok 17 rfl) rfl rfl rfl ?_
  refine go_iadd (q := 34) (gDec iX4_isPairTold_ok 18 rfl) rfl ?_
  refine go_top (v' := nI (a * 24 + b)) (by rw [show (24 : Int32) = nI 24 from rfl, nI_mul, nI_add]) ?_
  refine go_callV (n2 := 0) (q := 37) kX4_40 (ctX7_get (a := 28) rfl rfl (by decide) (by decide) (by omega) (by decide)) (gDec iX4_isPairTold_ok 19 rfl) rfl rfl (by decide) rfl rfl rfl (Nat.le_of_ble_eq_true rfl) rfl (gFit_rm (by decide) (by decide)) rfl ?_
  refine go_sipush (v := 301) (q := 40) (gDec iX4_isPairTold_ok 20 rfl) (by decide) rfl ?_
  refine go_icmp_eq (t := 47) (q := 43) (gDec iX4_isPairTold_ok 21 rfl) (by decide) rfl (fun c40 => ?_) (fun c40 => ?_)
  · refine go_iconst (v := 0) (q := 48) (gDec iX4_isPairTold_ok 24 rfl) (by decide) rfl ?_
    exact go_ireturn (gDec iX4_isPairTold_ok 25 rfl) rfl rfl (by first | rw [if_pos c40] | rw [if_neg c40]) rfl (by decide)
  · refine go_iconst (v := 1) (q := 44) (gDec iX4_isPairTold_ok 22 rfl) (by decide) rfl ?_
    refine go_goto (t := 48) (gDec iX4_isPairTold_ok 23 rfl) (by decide) ?_
    exact go_ireturn (gDec iX4_isPairTold_ok 25 rfl) rfl rfl (by first | rw [if_pos c40] | rw [if_neg c40]) rfl (by decide)

set_option maxHeartbeats 4000000 in
set_option maxRecDepth 100000 in
theorem ctX4_isPairTold0 {κ : gK} {σ : gST} {a b : Int32} (hh : ¬ gIn2 23 a b) : gCt κ mX4_isPairTold 1 [.ref (κ.2.1 + 20), .int a, .int b] σ (.inl (some (.int 0))) σ 0 := by
  refine ct_of (by decide +kernel) rfl (Nat.le_of_ble_eq_true rfl) rfl ?_
  refine go_iload_n (q := 1) (gDec iX4_isPairTold_ok 0 rfl) rfl rfl rfl ?_
  refine go_i2l (q := 2) (gDec iX4_isPairTold_ok 1 rfl) rfl ?_
  refine go_lconst (v := 0) (q := 3) (gDec iX4_isPairTold_ok 2 rfl) (by decide) rfl ?_
  refine go_ldc2 (q := 6) wX4_57 (gDec iX4_isPairTold_ok 3 rfl) rfl ?_
  refine go_callN (n2 := 0) (q := 9) kX4_49 ctX10_isWithin (gDec iX4_isPairTold_ok 4 rfl) rfl rfl (Nat.le_of_ble_eq_true rfl) rfl (gFit_rm (by decide) (by decide)) rfl ?_
  refine go_if_eq (t := 47) (q := 12) (gDec iX4_isPairTold_ok 5 rfl) (by decide) rfl (fun c9 => ?_) (fun c9 => ?_)
  · refine go_iconst (v := 0) (q := 48) (gDec iX4_isPairTold_ok 24 rfl) (by decide) rfl ?_
    exact go_ireturn (gDec iX4_isPairTold_ok 25 rfl) rfl rfl rfl rfl (by decide)
  · refine go_iload_n (q := 13) (gDec iX4_isPairTold_ok 6 rfl) rfl rfl rfl ?_
    refine go_i2l (q := 14) (gDec iX4_isPairTold_ok 7 rfl) rfl ?_
    refine go_lconst (v := 0) (q := 15) (gDec iX4_isPairTold_ok 8 rfl) (by decide) rfl ?_
    refine go_ldc2 (q := 18) wX4_57 (gDec iX4_isPairTold_ok 9 rfl) rfl ?_
    refine go_callN (n2 := 0) (q := 21) kX4_49 ctX10_isWithin (gDec iX4_isPairTold_ok 10 rfl) rfl rfl (Nat.le_of_ble_eq_true rfl) rfl (gFit_rm (by decide) (by decide)) rfl ?_
    refine go_if_eq (t := 47) (q := 24) (gDec iX4_isPairTold_ok 11 rfl) (by decide) rfl (fun c21 => ?_) (fun c21 => False.elim (hh ⟨by have h9 := gWi_1 c9; rw [i2l_toInt] at h9; exact h9, by have h9 := gWi_1 c21; rw [i2l_toInt] at h9; exact h9⟩))
    refine go_iconst (v := 0) (q := 48) (gDec iX4_isPairTold_ok 24 rfl) (by decide) rfl ?_
    exact go_ireturn (gDec iX4_isPairTold_ok 25 rfl) rfl rfl rfl rfl (by decide)

/-- whether a kern is told for two classes (f: the kerns by their place) -/
def gTC (f : Nat → Int32) : Option Nat → Option Nat → Int32
  | some a, some b => if f (a * 6 + b) = 301 then 0 else 1
  | _, _ => 0
def gKr (pk ck : Nat → Int32) (x y : Option Nat) (g h : Nat) : Int32 :=
  if pk (g * 24 + h) = 301 then (match x, y with
    | some a, some b => if ck (a * 6 + b) = 301 then 0 else ck (a * 6 + b)
    | _, _ => 0) else pk (g * 24 + h)
theorem lI_none_not {n : Int} {b : Int32} : ¬ gIn2 n (lI none) b := fun h => by
  have h1 := h.1.1
  have h2 : (lI none).toInt = -1 := by decide +kernel
  omega
theorem lI_none_not2 {n : Int} {b : Int32} : ¬ gIn2 n b (lI none) := fun h => by
  have h1 := h.2.1
  have h2 : (lI none).toInt = -1 := by decide +kernel
  omega

set_option maxHeartbeats 4000000 in
set_option maxRecDepth 100000 in
theorem ctX4_isToldForClassesOf {κ : gK} {σ : gST} {g h : Nat} {x y : Option Nat} (hg : g < 24) (hh : h < 24) (hx : σ.1 22 g = lI x) (hy : σ.1 24 h = lI y) (hx6 : ∀ a, x = some a → a < 6) (hy6 : ∀ a, y = some a → a < 6) : gCt κ mX4_isToldForClassesOf 3 [.ref (κ.2.1 + 20), .int (nI g), .int (nI h)] σ (.inl (some (.int (gTC (σ.1 26) x y)))) σ 0 := by
  refine ct_of (by decide +kernel) rfl (Nat.le_of_ble_eq_true rfl) rfl ?_
  cases x with
  | none =>
    refine go_aload_n (q := 1) (gDec iX4_isToldForClassesOf_ok 0 rfl) rfl rfl rfl ?_
    refine go_aload_n (q := 2) (gDec iX4_isToldForClassesOf_ok 1 rfl) rfl rfl rfl ?_
    refine go_getr (r' := 21) (q := 5) fX4_14 (gDec iX4_isToldForClassesOf_ok 2 rfl) rfl (by decide) rfl ?_
    refine go_iload_n (q := 6) (gDec iX4_isToldForClassesOf_ok 3 rfl) rfl rfl rfl ?_
    refine go_callV (n2 := 0) (q := 9) kX4_40 (ctX7_get (a := 22) rfl rfl (by decide) (by decide) (by omega) (by decide)) (gDec iX4_isToldForClassesOf_ok 4 rfl) rfl rfl (by decide) rfl rfl rfl (Nat.le_of_ble_eq_true rfl) rfl (gFit_rm (by decide) (by decide)) rfl ?_
    rw [hx]
    refine go_aload_n (q := 10) (gDec iX4_isToldForClassesOf_ok 5 rfl) rfl rfl rfl ?_
    refine go_getr (r' := 23) (q := 13) fX4_20 (gDec iX4_isToldForClassesOf_ok 6 rfl) rfl (by decide) rfl ?_
    refine go_iload_n (q := 14) (gDec iX4_isToldForClassesOf_ok 7 rfl) rfl rfl rfl ?_
    refine go_callV (n2 := 0) (q := 17) kX4_40 (ctX7_get (a := 24) rfl rfl (by decide) (by decide) (by omega) (by decide)) (gDec iX4_isToldForClassesOf_ok 8 rfl) rfl rfl (by decide) rfl rfl rfl (Nat.le_of_ble_eq_true rfl) rfl (gFit_rm (by decide) (by decide)) rfl ?_
    refine go_callV (n2 := 0) (q := 20) kX4_59 (ctX4_isClassKernTold0 lI_none_not) (gDec iX4_isToldForClassesOf_ok 9 rfl) rfl rfl (by decide) rfl rfl rfl (Nat.le_of_ble_eq_true rfl) rfl (gFit_rm (by decide) (by decide)) rfl ?_
    exact go_ireturn (gDec iX4_isToldForClassesOf_ok 10 rfl) rfl rfl rfl rfl (by decide)
  | some a =>
    cases y with
    | none =>
      refine go_aload_n (q := 1) (gDec iX4_isToldForClassesOf_ok 0 rfl) rfl rfl rfl ?_
      refine go_aload_n (q := 2) (gDec iX4_isToldForClassesOf_ok 1 rfl) rfl rfl rfl ?_
      refine go_getr (r' := 21) (q := 5) fX4_14 (gDec iX4_isToldForClassesOf_ok 2 rfl) rfl (by decide) rfl ?_
      refine go_iload_n (q := 6) (gDec iX4_isToldForClassesOf_ok 3 rfl) rfl rfl rfl ?_
      refine go_callV (n2 := 0) (q := 9) kX4_40 (ctX7_get (a := 22) rfl rfl (by decide) (by decide) (by omega) (by decide)) (gDec iX4_isToldForClassesOf_ok 4 rfl) rfl rfl (by decide) rfl rfl rfl (Nat.le_of_ble_eq_true rfl) rfl (gFit_rm (by decide) (by decide)) rfl ?_
      rw [hx]
      refine go_aload_n (q := 10) (gDec iX4_isToldForClassesOf_ok 5 rfl) rfl rfl rfl ?_
      refine go_getr (r' := 23) (q := 13) fX4_20 (gDec iX4_isToldForClassesOf_ok 6 rfl) rfl (by decide) rfl ?_
      refine go_iload_n (q := 14) (gDec iX4_isToldForClassesOf_ok 7 rfl) rfl rfl rfl ?_
      refine go_callV (n2 := 0) (q := 17) kX4_40 (ctX7_get (a := 24) rfl rfl (by decide) (by decide) (by omega) (by decide)) (gDec iX4_isToldForClassesOf_ok 8 rfl) rfl rfl (by decide) rfl rfl rfl (Nat.le_of_ble_eq_true rfl) rfl (gFit_rm (by decide) (by decide)) rfl ?_
      rw [hy]
      refine go_callV (n2 := 0) (q := 20) kX4_59 (ctX4_isClassKernTold0 lI_none_not2) (gDec iX4_isToldForClassesOf_ok 9 rfl) rfl rfl (by decide) rfl rfl rfl (Nat.le_of_ble_eq_true rfl) rfl (gFit_rm (by decide) (by decide)) rfl ?_
      exact go_ireturn (gDec iX4_isToldForClassesOf_ok 10 rfl) rfl rfl rfl rfl (by decide)
    | some b =>
      refine go_aload_n (q := 1) (gDec iX4_isToldForClassesOf_ok 0 rfl) rfl rfl rfl ?_
      refine go_aload_n (q := 2) (gDec iX4_isToldForClassesOf_ok 1 rfl) rfl rfl rfl ?_
      refine go_getr (r' := 21) (q := 5) fX4_14 (gDec iX4_isToldForClassesOf_ok 2 rfl) rfl (by decide) rfl ?_
      refine go_iload_n (q := 6) (gDec iX4_isToldForClassesOf_ok 3 rfl) rfl rfl rfl ?_
      refine go_callV (n2 := 0) (q := 9) kX4_40 (ctX7_get (a := 22) rfl rfl (by decide) (by decide) (by omega) (by decide)) (gDec iX4_isToldForClassesOf_ok 4 rfl) rfl rfl (by decide) rfl rfl rfl (Nat.le_of_ble_eq_true rfl) rfl (gFit_rm (by decide) (by decide)) rfl ?_
      rw [hx]
      refine go_aload_n (q := 10) (gDec iX4_isToldForClassesOf_ok 5 rfl) rfl rfl rfl ?_
      refine go_getr (r' := 23) (q := 13) fX4_20 (gDec iX4_isToldForClassesOf_ok 6 rfl) rfl (by decide) rfl ?_
      refine go_iload_n (q := 14) (gDec iX4_isToldForClassesOf_ok 7 rfl) rfl rfl rfl ?_
      refine go_callV (n2 := 0) (q := 17) kX4_40 (ctX7_get (a := 24) rfl rfl (by decide) (by decide) (by omega) (by decide)) (gDec iX4_isToldForClassesOf_ok 8 rfl) rfl rfl (by decide) rfl rfl rfl (Nat.le_of_ble_eq_true rfl) rfl (gFit_rm (by decide) (by decide)) rfl ?_
      rw [hy]
      refine go_st (st' := [.int (nI b), .int (nI a), .ref (κ.2.1 + 20)]) rfl ?_
      refine go_callV (n2 := 0) (q := 20) kX4_59 (ctX4_isClassKernTold (hx6 a rfl) (hy6 b rfl)) (gDec iX4_isToldForClassesOf_ok 9 rfl) rfl rfl (by decide) rfl rfl rfl (Nat.le_of_ble_eq_true rfl) rfl (gFit_rm (by decide) (by decide)) rfl ?_
      exact go_ireturn (gDec iX4_isToldForClassesOf_ok 10 rfl) rfl (by show narrow .boolean (.int (if σ.1 26 (a * 6 + b) = 301 then 0 else 1)) = _; split <;> rfl) rfl rfl (by decide)

set_option maxHeartbeats 4000000 in
set_option maxRecDepth 100000 in
theorem ctX4_tellClasses {κ : gK} {σ : gST} {a b : Nat} {v : Int32} (ha : a < 6) (hb : b < 6) : gCt κ mX4_tellClasses 3 [.ref (κ.2.1 + 20), .int (nI a), .int (nI b), .int v] σ (.inl none) (gPut (if σ.1 26 (a * 6 + b) = 301 then gPut σ 20 4 (σ.1 20 4 + 1) else σ) 26 (a * 6 + b) v) 0 := by
  refine ct_of (by decide +kernel) rfl (Nat.le_of_ble_eq_true rfl) rfl ?_
  refine go_aload_n (q := 1) (gDec iX4_tellClasses_ok 0 rfl) rfl rfl rfl ?_
  refine go_iload_n (q := 2) (gDec iX4_tellClasses_ok 1 rfl) rfl rfl rfl ?_
  refine go_iload_n (q := 3) (gDec iX4_tellClasses_ok 2 rfl) rfl rfl rfl ?_
  refine go_callV (n2 := 0) (q := 6) kX4_59 (ctX4_isClassKernTold ha hb) (gDec iX4_tellClasses_ok 3 rfl) rfl rfl (by decide) rfl rfl rfl (Nat.le_of_ble_eq_true rfl) rfl (gFit_rm (by decide) (by decide)) rfl ?_
  refine go_if_ne (t := 19) (q := 9) (gDec iX4_tellClasses_ok 4 rfl) (by decide) rfl (fun c6 => ?_) (fun c6 => ?_)
  · refine go_aload_n (q := 20) (gDec iX4_tellClasses_ok 11 rfl) rfl rfl rfl ?_
    refine go_getr (r' := 25) (q := 23) fX4_23 (gDec iX4_tellClasses_ok 12 rfl) rfl (by decide) rfl ?_
    refine go_iload_n (q := 24) (gDec iX4_tellClasses_ok 13 rfl) rfl rfl rfl ?_
    refine go_bipush (v := 6) (q := 26) (gDec iX4_tellClasses_ok 14 rfl) (by decide) rfl ?_
    refine go_imul (q := 27) (gDec iX4_tellClasses_ok 15 rfl) rfl ?_
    refine go_iload_n (q := 28) (gDec iX4_tellClasses_ok 16 rfl) rfl rfl rfl ?_
    refine go_iadd (q := 29) (gDec iX4_tellClasses_ok 17 rfl) rfl ?_
    refine go_top (v' := nI (a * 6 + b)) (by rw [show (6 : Int32) = nI 6 from rfl, nI_mul, nI_add]) ?_
    refine go_iload_n (q := 30) (gDec iX4_tellClasses_ok 18 rfl) rfl rfl rfl ?_
    refine go_callV (n2 := 0) (q := 33) kX4_44 (ctX7_put (a := 26) rfl rfl (by decide) (by decide) (by omega) (by decide)) (gDec iX4_tellClasses_ok 19 rfl) rfl rfl (by decide) rfl rfl rfl (Nat.le_of_ble_eq_true rfl) rfl (gFit_rm (by decide) (by decide)) rfl ?_
    exact go_return (gDec iX4_tellClasses_ok 20 rfl) rfl rfl (by first | (rw [if_pos (by by_cases h9 : σ.1 26 (a * 6 + b) = 301; exact h9; rw [if_neg h9] at c6; exact absurd c6 (by decide))]) | (rw [if_neg (fun h9 => c6 (by rw [if_pos h9]))])) (by decide)
  · refine go_aload_n (q := 10) (gDec iX4_tellClasses_ok 5 rfl) rfl rfl rfl ?_
    refine go_dup (q := 11) (gDec iX4_tellClasses_ok 6 rfl) rfl rfl ?_
    refine go_geti (q := 14) fX4_29 (gDec iX4_tellClasses_ok 7 rfl) rfl (by decide) rfl ?_
    refine go_iconst (v := 1) (q := 15) (gDec iX4_tellClasses_ok 8 rfl) (by decide) rfl ?_
    refine go_iadd (q := 16) (gDec iX4_tellClasses_ok 9 rfl) rfl ?_
    refine go_puti (q := 19) fX4_29 gft4 (gDec iX4_tellClasses_ok 10 rfl) rfl (by decide) rfl rfl rfl rfl ?_
    refine go_aload_n (q := 20) (gDec iX4_tellClasses_ok 11 rfl) rfl rfl rfl ?_
    refine go_getr (r' := 25) (q := 23) fX4_23 (gDec iX4_tellClasses_ok 12 rfl) rfl (by decide) rfl ?_
    refine go_iload_n (q := 24) (gDec iX4_tellClasses_ok 13 rfl) rfl rfl rfl ?_
    refine go_bipush (v := 6) (q := 26) (gDec iX4_tellClasses_ok 14 rfl) (by decide) rfl ?_
    refine go_imul (q := 27) (gDec iX4_tellClasses_ok 15 rfl) rfl ?_
    refine go_iload_n (q := 28) (gDec iX4_tellClasses_ok 16 rfl) rfl rfl rfl ?_
    refine go_iadd (q := 29) (gDec iX4_tellClasses_ok 17 rfl) rfl ?_
    refine go_top (v' := nI (a * 6 + b)) (by rw [show (6 : Int32) = nI 6 from rfl, nI_mul, nI_add]) ?_
    refine go_iload_n (q := 30) (gDec iX4_tellClasses_ok 18 rfl) rfl rfl rfl ?_
    refine go_callV (n2 := 0) (q := 33) kX4_44 (ctX7_put (a := 26) rfl rfl (by decide) (by decide) (by omega) (by decide)) (gDec iX4_tellClasses_ok 19 rfl) rfl rfl (by decide) rfl rfl rfl (Nat.le_of_ble_eq_true rfl) rfl (gFit_rm (by decide) (by decide)) rfl ?_
    exact go_return (gDec iX4_tellClasses_ok 20 rfl) rfl rfl (by first | (rw [if_pos (by by_cases h9 : σ.1 26 (a * 6 + b) = 301; exact h9; rw [if_neg h9] at c6; exact absurd c6 (by decide))]) | (rw [if_neg (fun h9 => c6 (by rw [if_pos h9]))])) (by decide)

set_option maxHeartbeats 4000000 in
set_option maxRecDepth 100000 in
theorem ctX4_tellPair {κ : gK} {σ : gST} {a b : Nat} {v : Int32} (ha : a < 24) (hb : b < 24) : gCt κ mX4_tellPair 3 [.ref (κ.2.1 + 20), .int (nI a), .int (nI b), .int v] σ (.inl none) (gPut (if σ.1 28 (a * 24 + b) = 301 then gPut σ 20 5 (σ.1 20 5 + 1) else σ) 28 (a * 24 + b) v) 0 := by
  refine ct_of (by decide +kernel) rfl (Nat.le_of_ble_eq_true rfl) rfl ?_
  refine go_aload_n (q := 1) (gDec iX4_tellPair_ok 0 rfl) rfl rfl rfl ?_
  refine go_iload_n (q := 2) (gDec iX4_tellPair_ok 1 rfl) rfl rfl rfl ?_
  refine go_iload_n (q := 3) (gDec iX4_tellPair_ok 2 rfl) rfl rfl rfl ?_
  refine go_callV (n2 := 0) (q := 6) kX4_62 (ctX4_isPairTold ha hb) (gDec iX4_tellPair_ok 3 rfl) rfl rfl (by decide) rfl rfl rfl (Nat.le_of_ble_eq_true rfl) rfl (gFit_rm (by decide) (by decide)) rfl ?_
  refine go_if_ne (t := 19) (q := 9) (gDec iX4_tellPair_ok 4 rfl) (by decide) rfl (fun c6 => ?_) (fun c6 => ?_)
  · refine go_aload_n (q := 20) (gDec iX4_tellPair_ok 11 rfl) rfl rfl rfl ?_
    refine go_getr (r' := 27) (q := 23) fX4_26 (gDec iX4_tellPair_ok 12 rfl) rfl (by decide) rfl ?_
    refine go_iload_n (q := 24) (gDec iX4_tellPair_ok 13 rfl) rfl rfl rfl ?_
    refine go_bipush (v := 24) (q := 26) (gDec iX4_tellPair_ok 14 rfl) (by decide) rfl ?_
    refine go_imul (q := 27) (gDec iX4_tellPair_ok 15 rfl) rfl ?_
    refine go_iload_n (q := 28) (gDec iX4_tellPair_ok 16 rfl) rfl rfl rfl ?_
    refine go_iadd (q := 29) (gDec iX4_tellPair_ok 17 rfl) rfl ?_
    refine go_top (v' := nI (a * 24 + b)) (by rw [show (24 : Int32) = nI 24 from rfl, nI_mul, nI_add]) ?_
    refine go_iload_n (q := 30) (gDec iX4_tellPair_ok 18 rfl) rfl rfl rfl ?_
    refine go_callV (n2 := 0) (q := 33) kX4_44 (ctX7_put (a := 28) rfl rfl (by decide) (by decide) (by omega) (by decide)) (gDec iX4_tellPair_ok 19 rfl) rfl rfl (by decide) rfl rfl rfl (Nat.le_of_ble_eq_true rfl) rfl (gFit_rm (by decide) (by decide)) rfl ?_
    exact go_return (gDec iX4_tellPair_ok 20 rfl) rfl rfl (by first | (rw [if_pos (by by_cases h9 : σ.1 28 (a * 24 + b) = 301; exact h9; rw [if_neg h9] at c6; exact absurd c6 (by decide))]) | (rw [if_neg (fun h9 => c6 (by rw [if_pos h9]))])) (by decide)
  · refine go_aload_n (q := 10) (gDec iX4_tellPair_ok 5 rfl) rfl rfl rfl ?_
    refine go_dup (q := 11) (gDec iX4_tellPair_ok 6 rfl) rfl rfl ?_
    refine go_geti (q := 14) fX4_33 (gDec iX4_tellPair_ok 7 rfl) rfl (by decide) rfl ?_
    refine go_iconst (v := 1) (q := 15) (gDec iX4_tellPair_ok 8 rfl) (by decide) rfl ?_
    refine go_iadd (q := 16) (gDec iX4_tellPair_ok 9 rfl) rfl ?_
    refine go_puti (q := 19) fX4_33 gft4 (gDec iX4_tellPair_ok 10 rfl) rfl (by decide) rfl rfl rfl rfl ?_
    refine go_aload_n (q := 20) (gDec iX4_tellPair_ok 11 rfl) rfl rfl rfl ?_
    refine go_getr (r' := 27) (q := 23) fX4_26 (gDec iX4_tellPair_ok 12 rfl) rfl (by decide) rfl ?_
    refine go_iload_n (q := 24) (gDec iX4_tellPair_ok 13 rfl) rfl rfl rfl ?_
    refine go_bipush (v := 24) (q := 26) (gDec iX4_tellPair_ok 14 rfl) (by decide) rfl ?_
    refine go_imul (q := 27) (gDec iX4_tellPair_ok 15 rfl) rfl ?_
    refine go_iload_n (q := 28) (gDec iX4_tellPair_ok 16 rfl) rfl rfl rfl ?_
    refine go_iadd (q := 29) (gDec iX4_tellPair_ok 17 rfl) rfl ?_
    refine go_top (v' := nI (a * 24 + b)) (by rw [show (24 : Int32) = nI 24 from rfl, nI_mul, nI_add]) ?_
    refine go_iload_n (q := 30) (gDec iX4_tellPair_ok 18 rfl) rfl rfl rfl ?_
    refine go_callV (n2 := 0) (q := 33) kX4_44 (ctX7_put (a := 28) rfl rfl (by decide) (by decide) (by omega) (by decide)) (gDec iX4_tellPair_ok 19 rfl) rfl rfl (by decide) rfl rfl rfl (Nat.le_of_ble_eq_true rfl) rfl (gFit_rm (by decide) (by decide)) rfl ?_
    exact go_return (gDec iX4_tellPair_ok 20 rfl) rfl rfl (by first | (rw [if_pos (by by_cases h9 : σ.1 28 (a * 24 + b) = 301; exact h9; rw [if_neg h9] at c6; exact absurd c6 (by decide))]) | (rw [if_neg (fun h9 => c6 (by rw [if_pos h9]))])) (by decide)

set_option maxHeartbeats 4000000 in
set_option maxRecDepth 100000 in
theorem ctX4_dropClasses {κ : gK} {σ : gST} {a b : Nat} (ha : a < 6) (hb : b < 6) : gCt κ mX4_dropClasses 3 [.ref (κ.2.1 + 20), .int (nI a), .int (nI b)] σ (.inl (some (.int (σ.1 26 (a * 6 + b))))) (gPut (gPut σ 26 (a * 6 + b) 301) 20 4 (σ.1 20 4 - 1)) 0 := by
  refine ct_of (by decide +kernel) rfl (Nat.le_of_ble_eq_true rfl) rfl ?_
  refine go_aload_n (q := 1) (gDec iX4_dropClasses_ok 0 rfl) rfl rfl rfl ?_
  refine go_getr (r' := 25) (q := 4) fX4_23 (gDec iX4_dropClasses_ok 1 rfl) rfl (by decide) rfl ?_
  refine go_iload_n (q := 5) (gDec iX4_dropClasses_ok 2 rfl) rfl rfl rfl ?_
  refine go_bipush (v := 6) (q := 7) (gDec iX4_dropClasses_ok 3 rfl) (by decide) rfl ?_
  refine go_imul (q := 8) (gDec iX4_dropClasses_ok 4 rfl) rfl ?_
  refine go_iload_n (q := 9) (gDec iX4_dropClasses_ok 5 rfl) rfl rfl rfl ?_
  refine go_iadd (q := 10) (gDec iX4_dropClasses_ok 6 rfl) rfl ?_
  refine go_top (v' := nI (a * 6 + b)) (by rw [show (6 : Int32) = nI 6 from rfl, nI_mul, nI_add]) ?_
  refine go_callV (n2 := 0) (q := 13) kX4_40 (ctX7_get (a := 26) rfl rfl (by decide) (by decide) (by omega) (by decide)) (gDec iX4_dropClasses_ok 7 rfl) rfl rfl (by decide) rfl rfl rfl (Nat.le_of_ble_eq_true rfl) rfl (gFit_rm (by decide) (by decide)) rfl ?_
  refine go_istore_n (q := 14) (gDec iX4_dropClasses_ok 8 rfl) rfl (by decide) rfl ?_
  refine go_aload_n (q := 15) (gDec iX4_dropClasses_ok 9 rfl) rfl rfl rfl ?_
  refine go_getr (r' := 25) (q := 18) fX4_23 (gDec iX4_dropClasses_ok 10 rfl) rfl (by decide) rfl ?_
  refine go_iload_n (q := 19) (gDec iX4_dropClasses_ok 11 rfl) rfl rfl rfl ?_
  refine go_bipush (v := 6) (q := 21) (gDec iX4_dropClasses_ok 12 rfl) (by decide) rfl ?_
  refine go_imul (q := 22) (gDec iX4_dropClasses_ok 13 rfl) rfl ?_
  refine go_iload_n (q := 23) (gDec iX4_dropClasses_ok 14 rfl) rfl rfl rfl ?_
  refine go_iadd (q := 24) (gDec iX4_dropClasses_ok 15 rfl) rfl ?_
  refine go_top (v' := nI (a * 6 + b)) (by rw [show (6 : Int32) = nI 6 from rfl, nI_mul, nI_add]) ?_
  refine go_sipush (v := 301) (q := 27) (gDec iX4_dropClasses_ok 16 rfl) (by decide) rfl ?_
  refine go_callV (n2 := 0) (q := 30) kX4_44 (ctX7_put (a := 26) rfl rfl (by decide) (by decide) (by omega) (by decide)) (gDec iX4_dropClasses_ok 17 rfl) rfl rfl (by decide) rfl rfl rfl (Nat.le_of_ble_eq_true rfl) rfl (gFit_rm (by decide) (by decide)) rfl ?_
  refine go_aload_n (q := 31) (gDec iX4_dropClasses_ok 18 rfl) rfl rfl rfl ?_
  refine go_dup (q := 32) (gDec iX4_dropClasses_ok 19 rfl) rfl rfl ?_
  refine go_geti (q := 35) fX4_29 (gDec iX4_dropClasses_ok 20 rfl) rfl (by decide) rfl ?_
  refine go_iconst (v := 1) (q := 36) (gDec iX4_dropClasses_ok 21 rfl) (by decide) rfl ?_
  refine go_isub (q := 37) (gDec iX4_dropClasses_ok 22 rfl) rfl ?_
  refine go_puti (q := 40) fX4_29 gft4 (gDec iX4_dropClasses_ok 23 rfl) rfl (by decide) rfl rfl rfl rfl ?_
  refine go_iload_n (q := 41) (gDec iX4_dropClasses_ok 24 rfl) rfl rfl rfl ?_
  exact go_ireturn (gDec iX4_dropClasses_ok 25 rfl) rfl rfl rfl rfl (by decide)

set_option maxHeartbeats 4000000 in
set_option maxRecDepth 100000 in
theorem ctX4_dropPair {κ : gK} {σ : gST} {a b : Nat} (ha : a < 24) (hb : b < 24) : gCt κ mX4_dropPair 3 [.ref (κ.2.1 + 20), .int (nI a), .int (nI b)] σ (.inl (some (.int (σ.1 28 (a * 24 + b))))) (gPut (gPut σ 28 (a * 24 + b) 301) 20 5 (σ.1 20 5 - 1)) 0 := by
  refine ct_of (by decide +kernel) rfl (Nat.le_of_ble_eq_true rfl) rfl ?_
  refine go_aload_n (q := 1) (gDec iX4_dropPair_ok 0 rfl) rfl rfl rfl ?_
  refine go_getr (r' := 27) (q := 4) fX4_26 (gDec iX4_dropPair_ok 1 rfl) rfl (by decide) rfl ?_
  refine go_iload_n (q := 5) (gDec iX4_dropPair_ok 2 rfl) rfl rfl rfl ?_
  refine go_bipush (v := 24) (q := 7) (gDec iX4_dropPair_ok 3 rfl) (by decide) rfl ?_
  refine go_imul (q := 8) (gDec iX4_dropPair_ok 4 rfl) rfl ?_
  refine go_iload_n (q := 9) (gDec iX4_dropPair_ok 5 rfl) rfl rfl rfl ?_
  refine go_iadd (q := 10) (gDec iX4_dropPair_ok 6 rfl) rfl ?_
  refine go_top (v' := nI (a * 24 + b)) (by rw [show (24 : Int32) = nI 24 from rfl, nI_mul, nI_add]) ?_
  refine go_callV (n2 := 0) (q := 13) kX4_40 (ctX7_get (a := 28) rfl rfl (by decide) (by decide) (by omega) (by decide)) (gDec iX4_dropPair_ok 7 rfl) rfl rfl (by decide) rfl rfl rfl (Nat.le_of_ble_eq_true rfl) rfl (gFit_rm (by decide) (by decide)) rfl ?_
  refine go_istore_n (q := 14) (gDec iX4_dropPair_ok 8 rfl) rfl (by decide) rfl ?_
  refine go_aload_n (q := 15) (gDec iX4_dropPair_ok 9 rfl) rfl rfl rfl ?_
  refine go_getr (r' := 27) (q := 18) fX4_26 (gDec iX4_dropPair_ok 10 rfl) rfl (by decide) rfl ?_
  refine go_iload_n (q := 19) (gDec iX4_dropPair_ok 11 rfl) rfl rfl rfl ?_
  refine go_bipush (v := 24) (q := 21) (gDec iX4_dropPair_ok 12 rfl) (by decide) rfl ?_
  refine go_imul (q := 22) (gDec iX4_dropPair_ok 13 rfl) rfl ?_
  refine go_iload_n (q := 23) (gDec iX4_dropPair_ok 14 rfl) rfl rfl rfl ?_
  refine go_iadd (q := 24) (gDec iX4_dropPair_ok 15 rfl) rfl ?_
  refine go_top (v' := nI (a * 24 + b)) (by rw [show (24 : Int32) = nI 24 from rfl, nI_mul, nI_add]) ?_
  refine go_sipush (v := 301) (q := 27) (gDec iX4_dropPair_ok 16 rfl) (by decide) rfl ?_
  refine go_callV (n2 := 0) (q := 30) kX4_44 (ctX7_put (a := 28) rfl rfl (by decide) (by decide) (by omega) (by decide)) (gDec iX4_dropPair_ok 17 rfl) rfl rfl (by decide) rfl rfl rfl (Nat.le_of_ble_eq_true rfl) rfl (gFit_rm (by decide) (by decide)) rfl ?_
  refine go_aload_n (q := 31) (gDec iX4_dropPair_ok 18 rfl) rfl rfl rfl ?_
  refine go_dup (q := 32) (gDec iX4_dropPair_ok 19 rfl) rfl rfl ?_
  refine go_geti (q := 35) fX4_33 (gDec iX4_dropPair_ok 20 rfl) rfl (by decide) rfl ?_
  refine go_iconst (v := 1) (q := 36) (gDec iX4_dropPair_ok 21 rfl) (by decide) rfl ?_
  refine go_isub (q := 37) (gDec iX4_dropPair_ok 22 rfl) rfl ?_
  refine go_puti (q := 40) fX4_33 gft4 (gDec iX4_dropPair_ok 23 rfl) rfl (by decide) rfl rfl rfl rfl ?_
  refine go_iload_n (q := 41) (gDec iX4_dropPair_ok 24 rfl) rfl rfl rfl ?_
  exact go_ireturn (gDec iX4_dropPair_ok 25 rfl) rfl rfl rfl rfl (by decide)

set_option maxHeartbeats 4000000 in
set_option maxRecDepth 100000 in
theorem ctX4_classKernCount {κ : gK} {σ : gST}  : gCt κ mX4_classKernCount 0 [.ref (κ.2.1 + 20)] σ (.inl (some (.int (σ.1 20 4)))) σ 0 := by
  refine ct_of (by decide +kernel) rfl (Nat.le_of_ble_eq_true rfl) rfl ?_
  refine go_aload_n (q := 1) (gDec iX4_classKernCount_ok 0 rfl) rfl rfl rfl ?_
  refine go_geti (q := 4) fX4_29 (gDec iX4_classKernCount_ok 1 rfl) rfl (by decide) rfl ?_
  exact go_ireturn (gDec iX4_classKernCount_ok 2 rfl) rfl rfl rfl rfl (by decide)

set_option maxHeartbeats 4000000 in
set_option maxRecDepth 100000 in
theorem ctX4_pairKernCount {κ : gK} {σ : gST}  : gCt κ mX4_pairKernCount 0 [.ref (κ.2.1 + 20)] σ (.inl (some (.int (σ.1 20 5)))) σ 0 := by
  refine ct_of (by decide +kernel) rfl (Nat.le_of_ble_eq_true rfl) rfl ?_
  refine go_aload_n (q := 1) (gDec iX4_pairKernCount_ok 0 rfl) rfl rfl rfl ?_
  refine go_geti (q := 4) fX4_33 (gDec iX4_pairKernCount_ok 1 rfl) rfl (by decide) rfl ?_
  exact go_ireturn (gDec iX4_pairKernCount_ok 2 rfl) rfl rfl rfl rfl (by decide)

set_option maxHeartbeats 4000000 in
set_option maxRecDepth 100000 in
theorem ctX4_kernOf {κ : gK} {σ : gST} {g h : Nat} {x y : Option Nat} (hg : g < 24) (hh : h < 24) (hx : σ.1 22 g = lI x) (hy : σ.1 24 h = lI y) (hx6 : ∀ a, x = some a → a < 6) (hy6 : ∀ a, y = some a → a < 6) : gCt κ mX4_kernOf 4 [.ref (κ.2.1 + 20), .int (nI g), .int (nI h)] σ (.inl (some (.int (gKr (σ.1 28) (σ.1 26) x y g h)))) σ 0 := by
  refine ct_of (by decide +kernel) rfl (Nat.le_of_ble_eq_true rfl) rfl ?_
  by_cases hp : σ.1 28 (g * 24 + h) = 301
  · cases x with
    | none =>
      refine go_aload_n (q := 1) (gDec iX4_kernOf_ok 0 rfl) rfl rfl rfl ?_
      refine go_iload_n (q := 2) (gDec iX4_kernOf_ok 1 rfl) rfl rfl rfl ?_
      refine go_iload_n (q := 3) (gDec iX4_kernOf_ok 2 rfl) rfl rfl rfl ?_
      refine go_callV (n2 := 0) (q := 6) kX4_62 (ctX4_isPairTold hg hh) (gDec iX4_kernOf_ok 3 rfl) rfl rfl (by decide) rfl rfl rfl (Nat.le_of_ble_eq_true rfl) rfl (gFit_rm (by decide) (by decide)) rfl ?_
      refine go_if_eq (t := 23) (q := 9) (gDec iX4_kernOf_ok 4 rfl) (by decide) rfl (fun c6 => ?_) (fun c6 => False.elim (c6 (if_pos hp)))
      refine go_aload_n (q := 24) (gDec iX4_kernOf_ok 14 rfl) rfl rfl rfl ?_
      refine go_iload_n (q := 25) (gDec iX4_kernOf_ok 15 rfl) rfl rfl rfl ?_
      refine go_iload_n (q := 26) (gDec iX4_kernOf_ok 16 rfl) rfl rfl rfl ?_
      refine go_callV (n2 := 0) (q := 29) kX4_65 (ctX4_isToldForClassesOf hg hh hx hy hx6 hy6) (gDec iX4_kernOf_ok 17 rfl) rfl rfl (by decide) rfl rfl rfl (Nat.le_of_ble_eq_true rfl) rfl (gFit_rm (by decide) (by decide)) rfl ?_
      refine go_if_eq (t := 60) (q := 32) (gDec iX4_kernOf_ok 18 rfl) (by decide) rfl (fun c29 => ?_) (fun c29 => False.elim (c29 rfl))
      refine go_iconst (v := 0) (q := 61) (gDec iX4_kernOf_ok 34 rfl) (by decide) rfl ?_
      exact go_ireturn (gDec iX4_kernOf_ok 35 rfl) rfl rfl (by unfold gKr; first | (simp [hp, hc]; done) | simp [hp]) rfl (by decide)
    | some a =>
      cases y with
      | none =>
        refine go_aload_n (q := 1) (gDec iX4_kernOf_ok 0 rfl) rfl rfl rfl ?_
        refine go_iload_n (q := 2) (gDec iX4_kernOf_ok 1 rfl) rfl rfl rfl ?_
        refine go_iload_n (q := 3) (gDec iX4_kernOf_ok 2 rfl) rfl rfl rfl ?_
        refine go_callV (n2 := 0) (q := 6) kX4_62 (ctX4_isPairTold hg hh) (gDec iX4_kernOf_ok 3 rfl) rfl rfl (by decide) rfl rfl rfl (Nat.le_of_ble_eq_true rfl) rfl (gFit_rm (by decide) (by decide)) rfl ?_
        refine go_if_eq (t := 23) (q := 9) (gDec iX4_kernOf_ok 4 rfl) (by decide) rfl (fun c6 => ?_) (fun c6 => False.elim (c6 (if_pos hp)))
        refine go_aload_n (q := 24) (gDec iX4_kernOf_ok 14 rfl) rfl rfl rfl ?_
        refine go_iload_n (q := 25) (gDec iX4_kernOf_ok 15 rfl) rfl rfl rfl ?_
        refine go_iload_n (q := 26) (gDec iX4_kernOf_ok 16 rfl) rfl rfl rfl ?_
        refine go_callV (n2 := 0) (q := 29) kX4_65 (ctX4_isToldForClassesOf hg hh hx hy hx6 hy6) (gDec iX4_kernOf_ok 17 rfl) rfl rfl (by decide) rfl rfl rfl (Nat.le_of_ble_eq_true rfl) rfl (gFit_rm (by decide) (by decide)) rfl ?_
        refine go_if_eq (t := 60) (q := 32) (gDec iX4_kernOf_ok 18 rfl) (by decide) rfl (fun c29 => ?_) (fun c29 => False.elim (c29 rfl))
        refine go_iconst (v := 0) (q := 61) (gDec iX4_kernOf_ok 34 rfl) (by decide) rfl ?_
        exact go_ireturn (gDec iX4_kernOf_ok 35 rfl) rfl rfl (by unfold gKr; first | (simp [hp, hc]; done) | simp [hp]) rfl (by decide)
      | some b =>
        by_cases hc : σ.1 26 (a * 6 + b) = 301
        · have hd : gTC (σ.1 26) (some a) (some b) = 0 := if_pos hc
          refine go_aload_n (q := 1) (gDec iX4_kernOf_ok 0 rfl) rfl rfl rfl ?_
          refine go_iload_n (q := 2) (gDec iX4_kernOf_ok 1 rfl) rfl rfl rfl ?_
          refine go_iload_n (q := 3) (gDec iX4_kernOf_ok 2 rfl) rfl rfl rfl ?_
          refine go_callV (n2 := 0) (q := 6) kX4_62 (ctX4_isPairTold hg hh) (gDec iX4_kernOf_ok 3 rfl) rfl rfl (by decide) rfl rfl rfl (Nat.le_of_ble_eq_true rfl) rfl (gFit_rm (by decide) (by decide)) rfl ?_
          refine go_if_eq (t := 23) (q := 9) (gDec iX4_kernOf_ok 4 rfl) (by decide) rfl (fun c6 => ?_) (fun c6 => False.elim (c6 (if_pos hp)))
          refine go_aload_n (q := 24) (gDec iX4_kernOf_ok 14 rfl) rfl rfl rfl ?_
          refine go_iload_n (q := 25) (gDec iX4_kernOf_ok 15 rfl) rfl rfl rfl ?_
          refine go_iload_n (q := 26) (gDec iX4_kernOf_ok 16 rfl) rfl rfl rfl ?_
          refine go_callV (n2 := 0) (q := 29) kX4_65 (ctX4_isToldForClassesOf hg hh hx hy hx6 hy6) (gDec iX4_kernOf_ok 17 rfl) rfl rfl (by decide) rfl rfl rfl (Nat.le_of_ble_eq_true rfl) rfl (gFit_rm (by decide) (by decide)) rfl ?_
          refine go_if_eq (t := 60) (q := 32) (gDec iX4_kernOf_ok 18 rfl) (by decide) rfl (fun c29 => ?_) (fun c29 => False.elim (c29 hd))
          refine go_iconst (v := 0) (q := 61) (gDec iX4_kernOf_ok 34 rfl) (by decide) rfl ?_
          exact go_ireturn (gDec iX4_kernOf_ok 35 rfl) rfl rfl (by unfold gKr; first | (simp [hp, hc]; done) | simp [hp]) rfl (by decide)
        · have hd : gTC (σ.1 26) (some a) (some b) = 1 := if_neg hc
          refine go_aload_n (q := 1) (gDec iX4_kernOf_ok 0 rfl) rfl rfl rfl ?_
          refine go_iload_n (q := 2) (gDec iX4_kernOf_ok 1 rfl) rfl rfl rfl ?_
          refine go_iload_n (q := 3) (gDec iX4_kernOf_ok 2 rfl) rfl rfl rfl ?_
          refine go_callV (n2 := 0) (q := 6) kX4_62 (ctX4_isPairTold hg hh) (gDec iX4_kernOf_ok 3 rfl) rfl rfl (by decide) rfl rfl rfl (Nat.le_of_ble_eq_true rfl) rfl (gFit_rm (by decide) (by decide)) rfl ?_
          refine go_if_eq (t := 23) (q := 9) (gDec iX4_kernOf_ok 4 rfl) (by decide) rfl (fun c6 => ?_) (fun c6 => False.elim (c6 (if_pos hp)))
          refine go_aload_n (q := 24) (gDec iX4_kernOf_ok 14 rfl) rfl rfl rfl ?_
          refine go_iload_n (q := 25) (gDec iX4_kernOf_ok 15 rfl) rfl rfl rfl ?_
          refine go_iload_n (q := 26) (gDec iX4_kernOf_ok 16 rfl) rfl rfl rfl ?_
          refine go_callV (n2 := 0) (q := 29) kX4_65 (ctX4_isToldForClassesOf hg hh hx hy hx6 hy6) (gDec iX4_kernOf_ok 17 rfl) rfl rfl (by decide) rfl rfl rfl (Nat.le_of_ble_eq_true rfl) rfl (gFit_rm (by decide) (by decide)) rfl ?_
          refine go_if_eq (t := 60) (q := 32) (gDec iX4_kernOf_ok 18 rfl) (by decide) rfl (fun c29 => False.elim (by rw [hd] at c29; exact absurd c29 (by decide))) (fun c29 => ?_)
          refine go_aload_n (q := 33) (gDec iX4_kernOf_ok 19 rfl) rfl rfl rfl ?_
          refine go_getr (r' := 25) (q := 36) fX4_23 (gDec iX4_kernOf_ok 20 rfl) rfl (by decide) rfl ?_
          refine go_aload_n (q := 37) (gDec iX4_kernOf_ok 21 rfl) rfl rfl rfl ?_
          refine go_getr (r' := 21) (q := 40) fX4_14 (gDec iX4_kernOf_ok 22 rfl) rfl (by decide) rfl ?_
          refine go_iload_n (q := 41) (gDec iX4_kernOf_ok 23 rfl) rfl rfl rfl ?_
          refine go_callV (n2 := 0) (q := 44) kX4_40 (ctX7_get (a := 22) rfl rfl (by decide) (by decide) (by omega) (by decide)) (gDec iX4_kernOf_ok 24 rfl) rfl rfl (by decide) rfl rfl rfl (Nat.le_of_ble_eq_true rfl) rfl (gFit_rm (by decide) (by decide)) rfl ?_
          rw [hx]
          refine go_bipush (v := 6) (q := 46) (gDec iX4_kernOf_ok 25 rfl) (by decide) rfl ?_
          refine go_imul (q := 47) (gDec iX4_kernOf_ok 26 rfl) rfl ?_
          refine go_aload_n (q := 48) (gDec iX4_kernOf_ok 27 rfl) rfl rfl rfl ?_
          refine go_getr (r' := 23) (q := 51) fX4_20 (gDec iX4_kernOf_ok 28 rfl) rfl (by decide) rfl ?_
          refine go_iload_n (q := 52) (gDec iX4_kernOf_ok 29 rfl) rfl rfl rfl ?_
          refine go_callV (n2 := 0) (q := 55) kX4_40 (ctX7_get (a := 24) rfl rfl (by decide) (by decide) (by omega) (by decide)) (gDec iX4_kernOf_ok 30 rfl) rfl rfl (by decide) rfl rfl rfl (Nat.le_of_ble_eq_true rfl) rfl (gFit_rm (by decide) (by decide)) rfl ?_
          rw [hy]
          refine go_st (st' := [.int (nI b), .int (nI a * 6), .ref (κ.2.1 + 25)]) rfl ?_
          refine go_iadd (q := 56) (gDec iX4_kernOf_ok 31 rfl) rfl ?_
          refine go_top (v' := nI (a * 6 + b)) (by rw [show (6 : Int32) = nI 6 from rfl, nI_mul, nI_add]) ?_
          refine go_callV (n2 := 0) (q := 59) kX4_40 (ctX7_get (a := 26) rfl rfl (by decide) (by decide) (by have := hx6 a rfl; have := hy6 b rfl; omega) (by decide)) (gDec iX4_kernOf_ok 32 rfl) rfl rfl (by decide) rfl rfl rfl (Nat.le_of_ble_eq_true rfl) rfl (gFit_rm (by decide) (by decide)) rfl ?_
          exact go_ireturn (gDec iX4_kernOf_ok 33 rfl) rfl rfl (by unfold gKr; simp [hp, hc]) rfl (by decide)
  · skip
    refine go_aload_n (q := 1) (gDec iX4_kernOf_ok 0 rfl) rfl rfl rfl ?_
    refine go_iload_n (q := 2) (gDec iX4_kernOf_ok 1 rfl) rfl rfl rfl ?_
    refine go_iload_n (q := 3) (gDec iX4_kernOf_ok 2 rfl) rfl rfl rfl ?_
    refine go_callV (n2 := 0) (q := 6) kX4_62 (ctX4_isPairTold hg hh) (gDec iX4_kernOf_ok 3 rfl) rfl rfl (by decide) rfl rfl rfl (Nat.le_of_ble_eq_true rfl) rfl (gFit_rm (by decide) (by decide)) rfl ?_
    refine go_if_eq (t := 23) (q := 9) (gDec iX4_kernOf_ok 4 rfl) (by decide) rfl (fun c6 => False.elim (by rw [if_neg hp] at c6; exact absurd c6 (by decide))) (fun c6 => ?_)
    refine go_aload_n (q := 10) (gDec iX4_kernOf_ok 5 rfl) rfl rfl rfl ?_
    refine go_getr (r' := 27) (q := 13) fX4_26 (gDec iX4_kernOf_ok 6 rfl) rfl (by decide) rfl ?_
    refine go_iload_n (q := 14) (gDec iX4_kernOf_ok 7 rfl) rfl rfl rfl ?_
    refine go_bipush (v := 24) (q := 16) (gDec iX4_kernOf_ok 8 rfl) (by decide) rfl ?_
    refine go_imul (q := 17) (gDec iX4_kernOf_ok 9 rfl) rfl ?_
    refine go_iload_n (q := 18) (gDec iX4_kernOf_ok 10 rfl) rfl rfl rfl ?_
    refine go_iadd (q := 19) (gDec iX4_kernOf_ok 11 rfl) rfl ?_
    refine go_top (v' := nI (g * 24 + h)) (by rw [show (24 : Int32) = nI 24 from rfl, nI_mul, nI_add]) ?_
    refine go_callV (n2 := 0) (q := 22) kX4_40 (ctX7_get (a := 28) rfl rfl (by decide) (by decide) (by omega) (by decide)) (gDec iX4_kernOf_ok 12 rfl) rfl rfl (by decide) rfl rfl rfl (Nat.le_of_ble_eq_true rfl) rfl (gFit_rm (by decide) (by decide)) rfl ?_
    exact go_ireturn (gDec iX4_kernOf_ok 13 rfl) rfl rfl (by unfold gKr; rw [if_neg hp]) rfl (by decide)
