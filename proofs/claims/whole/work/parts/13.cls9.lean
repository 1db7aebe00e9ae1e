def iJ13_bitCount_95d88 : List (Nat × Instr × Nat) := [(0, .lload_n 0, 1), (1, .lload_n 0, 1), (2, .iconst 1, 1), (3, .lushr, 1), (4, .ldc2_w 314, 3), (7, .land, 1), (8, .lsub, 1), (9, .lstore_n 0, 1), (10, .lload_n 0, 1), (11, .ldc2_w 316, 3), (14, .land, 1), (15, .lload_n 0, 1), (16, .iconst 2, 1), (17, .lushr, 1), (18, .ldc2_w 316, 3), (21, .land, 1), (22, .ladd, 1), (23, .lstore_n 0, 1), (24, .lload_n 0, 1), (25, .lload_n 0, 1), (26, .iconst 4, 1), (27, .lushr, 1), (28, .ladd, 1), (29, .ldc2_w 318, 3), (32, .land, 1), (33, .lstore_n 0, 1), (34, .lload_n 0, 1), (35, .lload_n 0, 1), (36, .bipush 8, 2), (38, .lushr, 1), (39, .ladd, 1), (40, .lstore_n 0, 1), (41, .lload_n 0, 1), (42, .lload_n 0, 1), (43, .bipush 16, 2), (45, .lushr, 1), (46, .ladd, 1), (47, .lstore_n 0, 1), (48, .lload_n 0, 1), (49, .lload_n 0, 1), (50, .bipush 32, 2), (52, .lushr, 1), (53, .ladd, 1), (54, .lstore_n 0, 1), (55, .lload_n 0, 1), (56, .l2i, 1), (57, .bipush 127, 2), (59, .iand, 1), (60, .ireturn, 1)]
theorem iJ13_bitCount_95d88_ok : gDecs mJ13_bitCount_95d88 iJ13_bitCount_95d88 := by decide +kernel
def iX6_isProof : List (Nat × Instr × Nat) := [(0, .iconst 0, 1), (1, .istore_n 2, 1), (2, .iload_n 2, 1), (3, .aload_n 0, 1), (4, .invokevirtual 48, 3), (7, .if_icmp .ge 34, 3), (10, .aload_n 0, 1), (11, .iload_n 2, 1), (12, .invokevirtual 53, 3), (15, .bipush 32, 2), (17, .if_icmp .eq 18, 3), (20, .aload_n 1, 1), (21, .aload_n 0, 1), (22, .iload_n 2, 1), (23, .invokevirtual 53, 3), (26, .invokevirtual 57, 3), (29, .iconst (-1), 1), (30, .if_icmp .ne 5, 3), (33, .iconst 0, 1), (34, .ireturn, 1), (35, .iinc 2 1, 3), (38, .goto (-36), 3), (41, .iconst 1, 1), (42, .ireturn, 1)]
theorem iX6_isProof_ok : gDecs mX6_isProof iX6_isProof := by decide +kernel
def iX6_take : List (Nat × Instr × Nat) := [(0, .aload_n 0, 1), (1, .aload_n 1, 1), (2, .invokevirtual 48, 3), (5, .putfield 35, 3), (8, .iconst 0, 1), (9, .istore_n 3, 1), (10, .iload_n 3, 1), (11, .aload_n 0, 1), (12, .getfield 35, 3), (15, .if_icmp .ge 26, 3), (18, .aload_n 0, 1), (19, .getfield 14, 3), (22, .iload_n 3, 1), (23, .aload_n 2, 1), (24, .aload_n 1, 1), (25, .iload_n 3, 1), (26, .invokevirtual 53, 3), (29, .invokevirtual 57, 3), (32, .invokevirtual 62, 3), (35, .iinc 3 1, 3), (38, .goto (-28), 3), (41, .return_, 1)]
theorem iX6_take_ok : gDecs mX6_take iX6_take := by decide +kernel
def iX6_forget : List (Nat × Instr × Nat) := [(0, .aload_n 0, 1), (1, .iconst 0, 1), (2, .putfield 35, 3), (5, .return_, 1)]
theorem iX6_forget_ok : gDecs mX6_forget iX6_forget := by decide +kernel
def iX6_length : List (Nat × Instr × Nat) := [(0, .aload_n 0, 1), (1, .getfield 35, 3), (4, .ireturn, 1)]
theorem iX6_length_ok : gDecs mX6_length iX6_length := by decide +kernel
def iX6_set : List (Nat × Instr × Nat) := [(0, .aload_n 0, 1), (1, .aload_n 1, 1), (2, .getfield 65, 3), (5, .aload_n 1, 1), (6, .getfield 70, 3), (9, .iadd, 1), (10, .aload_n 1, 1), (11, .getfield 65, 3), (14, .iadd, 1), (15, .putfield 39, 3), (18, .iconst 0, 1), (19, .istore_n 2, 1), (20, .iconst 0, 1), (21, .istore_n 3, 1), (22, .iload_n 3, 1), (23, .aload_n 0, 1), (24, .getfield 35, 3), (27, .if_icmp .ge 106, 3), (30, .aload_n 0, 1), (31, .getfield 20, 3), (34, .iload_n 3, 1), (35, .iload_n 2, 1), (36, .invokevirtual 62, 3), (39, .aload_n 0, 1), (40, .getfield 14, 3), (43, .iload_n 3, 1), (44, .invokevirtual 73, 3), (47, .istore 4, 2), (49, .iload_n 2, 1), (50, .iload 4, 2), (52, .iconst (-1), 1), (53, .if_icmp .ne 10, 3), (56, .aload_n 1, 1), (57, .getfield 70, 3), (60, .goto 9, 3), (63, .aload_n 1, 1), (64, .iload 4, 2), (66, .invokevirtual 76, 3), (69, .iadd, 1), (70, .istore_n 2, 1), (71, .aload_n 0, 1), (72, .getfield 23, 3), (75, .iload_n 3, 1), (76, .iload_n 2, 1), (77, .invokevirtual 62, 3), (80, .iload_n 2, 1), (81, .aload_n 1, 1), (82, .getfield 65, 3), (85, .iadd, 1), (86, .istore_n 2, 1), (87, .aload_n 0, 1), (88, .iload_n 3, 1), (89, .invokevirtual 79, 3), (92, .ifCond .ne 35, 3), (95, .aload_n 0, 1), (96, .iload_n 3, 1), (97, .iconst 1, 1), (98, .iadd, 1), (99, .invokevirtual 79, 3), (102, .ifCond .ne 25, 3), (105, .iload_n 2, 1), (106, .aload_n 1, 1), (107, .getfield 83, 3), (110, .iload 4, 2), (112, .aload_n 0, 1), (113, .getfield 14, 3), (116, .iload_n 3, 1), (117, .iconst 1, 1), (118, .iadd, 1), (119, .invokevirtual 73, 3), (122, .invokevirtual 87, 3), (125, .iadd, 1), (126, .istore_n 2, 1), (127, .iinc 3 1, 3), (130, .goto (-108), 3), (133, .return_, 1)]
theorem iX6_set_ok : gDecs mX6_set iX6_set := by decide +kernel
def iX6_width : List (Nat × Instr × Nat) := [(0, .aload_n 0, 1), (1, .getfield 23, 3), (4, .aload_n 0, 1), (5, .getfield 35, 3), (8, .iconst 1, 1), (9, .isub, 1), (10, .invokevirtual 73, 3), (13, .ireturn, 1)]
theorem iX6_width_ok : gDecs mX6_width iX6_width := by decide +kernel
def iX6_placeOf : List (Nat × Instr × Nat) := [(0, .aload_n 0, 1), (1, .getfield 20, 3), (4, .iload_n 1, 1), (5, .invokevirtual 73, 3), (8, .ireturn, 1)]
theorem iX6_placeOf_ok : gDecs mX6_placeOf iX6_placeOf := by decide +kernel
def iX6_breakLines : List (Nat × Instr × Nat) := [(0, .aload_n 0, 1), (1, .iconst 0, 1), (2, .putfield 42, 3), (5, .aload_n 0, 1), (6, .ldc 93, 2), (8, .putfield 45, 3), (11, .iconst 0, 1), (12, .istore_n 2, 1), (13, .iconst 0, 1), (14, .istore_n 3, 1), (15, .iload_n 3, 1), (16, .aload_n 0, 1), (17, .getfield 35, 3), (20, .if_icmp .ge 57, 3), (23, .aload_n 0, 1), (24, .iload_n 3, 1), (25, .invokevirtual 79, 3), (28, .ifCond .eq 10, 3), (31, .iload_n 3, 1), (32, .iconst 1, 1), (33, .iadd, 1), (34, .istore_n 2, 1), (35, .goto 36, 3), (38, .aload_n 0, 1), (39, .iload_n 3, 1), (40, .iconst 1, 1), (41, .iadd, 1), (42, .invokevirtual 79, 3), (45, .ifCond .eq 26, 3), (48, .aload_n 0, 1), (49, .iload_n 2, 1), (50, .aload_n 0, 1), (51, .getfield 23, 3), (54, .iload_n 3, 1), (55, .invokevirtual 73, 3), (58, .aload_n 0, 1), (59, .getfield 20, 3), (62, .iload_n 2, 1), (63, .invokevirtual 73, 3), (66, .isub, 1), (67, .iload_n 1, 1), (68, .invokevirtual 94, 3), (71, .iinc 3 1, 3), (74, .goto (-59), 3), (77, .return_, 1)]
theorem iX6_breakLines_ok : gDecs mX6_breakLines iX6_breakLines := by decide +kernel
def iX6_lineCount : List (Nat × Instr × Nat) := [(0, .aload_n 0, 1), (1, .getfield 42, 3), (4, .ireturn, 1)]
theorem iX6_lineCount_ok : gDecs mX6_lineCount iX6_lineCount := by decide +kernel
def iX6_lineWidth : List (Nat × Instr × Nat) := [(0, .aload_n 0, 1), (1, .getfield 26, 3), (4, .iload_n 1, 1), (5, .invokevirtual 73, 3), (8, .ireturn, 1)]
theorem iX6_lineWidth_ok : gDecs mX6_lineWidth iX6_lineWidth := by decide +kernel
def iX6_lineStart : List (Nat × Instr × Nat) := [(0, .aload_n 0, 1), (1, .getfield 29, 3), (4, .iload_n 1, 1), (5, .invokevirtual 73, 3), (8, .ireturn, 1)]
theorem iX6_lineStart_ok : gDecs mX6_lineStart iX6_lineStart := by decide +kernel
def iX6_lineWords : List (Nat × Instr × Nat) := [(0, .aload_n 0, 1), (1, .getfield 32, 3), (4, .iload_n 1, 1), (5, .invokevirtual 73, 3), (8, .ireturn, 1)]
theorem iX6_lineWords_ok : gDecs mX6_lineWords iX6_lineWords := by decide +kernel
def iX6_leastMeasureFor : List (Nat × Instr × Nat) := [(0, .iconst 1, 1), (1, .istore_n 2, 1), (2, .iconst 0, 1), (3, .istore_n 3, 1), (4, .iload_n 3, 1), (5, .sipush 3600, 3), (8, .if_icmp .ge 35, 3), (11, .iload_n 2, 1), (12, .ldc 98, 2), (14, .if_icmp .gt 29, 3), (17, .aload_n 0, 1), (18, .iload_n 2, 1), (19, .invokevirtual 99, 3), (22, .aload_n 0, 1), (23, .getfield 42, 3), (26, .iload_n 1, 1), (27, .if_icmp .gt 5, 3), (30, .iload_n 2, 1), (31, .ireturn, 1), (32, .aload_n 0, 1), (33, .getfield 45, 3), (36, .istore_n 2, 1), (37, .iinc 3 1, 3), (40, .goto (-36), 3), (43, .iconst (-1), 1), (44, .ireturn, 1)]
theorem iX6_leastMeasureFor_ok : gDecs mX6_leastMeasureFor iX6_leastMeasureFor := by decide +kernel
def iX6_isSpace : List (Nat × Instr × Nat) := [(0, .iload_n 1, 1), (1, .ifCond .lt 23, 3), (4, .iload_n 1, 1), (5, .aload_n 0, 1), (6, .getfield 35, 3), (9, .if_icmp .ge 15, 3), (12, .aload_n 0, 1), (13, .getfield 14, 3), (16, .iload_n 1, 1), (17, .invokevirtual 73, 3), (20, .iconst (-1), 1), (21, .if_icmp .ne 7, 3), (24, .iconst 1, 1), (25, .goto 4, 3), (28, .iconst 0, 1), (29, .ireturn, 1)]
theorem iX6_isSpace_ok : gDecs mX6_isSpace iX6_isSpace := by decide +kernel
def iX6_putWord : List (Nat × Instr × Nat) := [(0, .aload_n 0, 1), (1, .getfield 42, 3), (4, .ifCond .le 88, 3), (7, .aload_n 0, 1), (8, .getfield 26, 3), (11, .aload_n 0, 1), (12, .getfield 42, 3), (15, .iconst 1, 1), (16, .isub, 1), (17, .invokevirtual 73, 3), (20, .aload_n 0, 1), (21, .getfield 39, 3), (24, .iadd, 1), (25, .iload_n 2, 1), (26, .iadd, 1), (27, .istore 4, 2), (29, .iload 4, 2), (31, .iload_n 3, 1), (32, .if_icmp .gt 47, 3), (35, .aload_n 0, 1), (36, .getfield 26, 3), (39, .aload_n 0, 1), (40, .getfield 42, 3), (43, .iconst 1, 1), (44, .isub, 1), (45, .iload 4, 2), (47, .invokevirtual 62, 3), (50, .aload_n 0, 1), (51, .getfield 32, 3), (54, .aload_n 0, 1), (55, .getfield 42, 3), (58, .iconst 1, 1), (59, .isub, 1), (60, .aload_n 0, 1), (61, .getfield 32, 3), (64, .aload_n 0, 1), (65, .getfield 42, 3), (68, .iconst 1, 1), (69, .isub, 1), (70, .invokevirtual 73, 3), (73, .iconst 1, 1), (74, .iadd, 1), (75, .invokevirtual 62, 3), (78, .return_, 1), (79, .aload_n 0, 1), (80, .aload_n 0, 1), (81, .getfield 45, 3), (84, .iload 4, 2), (86, .invokestatic 103, 3), (89, .putfield 45, 3), (92, .aload_n 0, 1), (93, .getfield 26, 3), (96, .aload_n 0, 1), (97, .getfield 42, 3), (100, .iload_n 2, 1), (101, .invokevirtual 62, 3), (104, .aload_n 0, 1), (105, .getfield 29, 3), (108, .aload_n 0, 1), (109, .getfield 42, 3), (112, .iload_n 1, 1), (113, .invokevirtual 62, 3), (116, .aload_n 0, 1), (117, .getfield 32, 3), (120, .aload_n 0, 1), (121, .getfield 42, 3), (124, .iconst 1, 1), (125, .invokevirtual 62, 3), (128, .aload_n 0, 1), (129, .dup, 1), (130, .getfield 42, 3), (133, .iconst 1, 1), (134, .iadd, 1), (135, .putfield 42, 3), (138, .return_, 1)]
theorem iX6_putWord_ok : gDecs mX6_putWord iX6_putWord := by decide +kernel

/-- ints within bounds -/
def gBd (f : Nat → Int32) (n : Nat) (lo hi : Int) : Prop := ∀ i, i < n → lo ≤ (f i).toInt ∧ (f i).toInt ≤ hi
def nA (x : Int32) : Nat := x.toInt.toNat
def oA (x : Int32) : Option Nat := if x.toInt < 0 then none else some x.toInt.toNat
theorem nA_n {x : Int32} (h : 0 ≤ x.toInt) : x = nI (nA x) := by
  have hx := x.toInt_lt
  apply Int32.toInt_inj.mp
  unfold nA
  rw [nI_toInt (by omega)]
  omega
theorem nA_nI {n : Nat} (h : n < 2 ^ 31) : nA (nI n) = n := by
  unfold nA
  rw [nI_toInt h]
  omega
theorem nA_le {x : Int32} {k : Nat} (h : x.toInt ≤ k) : nA x ≤ k := by unfold nA; omega
theorem oA_l {x : Int32} (h : -1 ≤ x.toInt) : x = lI (oA x) := by
  unfold oA
  by_cases h1 : x.toInt < 0
  · rw [if_pos h1]
    apply Int32.toInt_inj.mp
    have h2 : (lI none).toInt = -1 := by decide +kernel
    omega
  · rw [if_neg h1]
    exact nA_n (by omega)
theorem oA_lt {x : Int32} {k b : Nat} (h : x.toInt ≤ k) (hb : oA x = some b) : b ≤ k := by
  unfold oA at hb
  by_cases h1 : x.toInt < 0
  · rw [if_pos h1] at hb; cases hb
  · rw [if_neg h1] at hb
    have := Option.some.inj hb
    omega
/-- the current design is well made -/
def gDW (σ : gST) : Prop :=
  (0 ≤ (σ.1 2 5).toInt ∧ (σ.1 2 5).toInt ≤ 24) ∧ gBd (σ.1 6) 24 0 3 ∧ gBd (σ.1 8) 72 0 12 ∧ gBd (σ.1 17) 48 (-1) 47 ∧ gBd (σ.1 22) 24 (-1) 5 ∧ gBd (σ.1 24) 24 (-1) 5 ∧ gBd (σ.1 31) 24 0 4
/-- how many glyphs, contours, points, stems; leaders and classes -/
def gNg (σ : gST) : Nat := nA (σ.1 2 5)
def gNc (σ : gST) (g : Nat) : Nat := nA (σ.1 6 g)
def gNp (σ : gST) (g c : Nat) : Nat := nA (σ.1 8 (g * 3 + c))
def gNs (σ : gST) (g : Nat) : Nat := nA (σ.1 31 g)
def gLe (σ : gST) (a : Nat) : Option Nat := oA (σ.1 17 a)
def gKx (σ : gST) (g : Nat) : Option Nat := oA (σ.1 22 g)
def gKy (σ : gST) (g : Nat) : Option Nat := oA (σ.1 24 g)
theorem gDW.ng {σ : gST} (h : gDW σ) : σ.1 2 5 = nI (gNg σ) := nA_n h.1.1
theorem gDW.ng24 {σ : gST} (h : gDW σ) : gNg σ ≤ 24 := nA_le h.1.2
theorem gDW.nc {σ : gST} (h : gDW σ) {g : Nat} (hg : g < 24) : σ.1 6 g = nI (gNc σ g) := nA_n (h.2.1 g hg).1
theorem gDW.nc3 {σ : gST} (h : gDW σ) {g : Nat} (hg : g < 24) : gNc σ g ≤ 3 := nA_le (h.2.1 g hg).2
theorem gDW.np {σ : gST} (h : gDW σ) {g c : Nat} (hg : g < 24) (hc : c < 3) : σ.1 8 (g * 3 + c) = nI (gNp σ g c) := nA_n (h.2.2.1 (g * 3 + c) (by omega)).1
theorem gDW.np12 {σ : gST} (h : gDW σ) {g c : Nat} (hg : g < 24) (hc : c < 3) : gNp σ g c ≤ 12 := nA_le (h.2.2.1 (g * 3 + c) (by omega)).2
theorem gDW.pm {σ : gST} (h : gDW σ) {g : Nat} (hg : g < 24) : ∀ c, c < gNc σ g → σ.1 8 (g * 3 + c) = nI (gNp σ g c) ∧ gNp σ g c ≤ 12 := fun c hc => by
  have h3 := h.nc3 hg
  exact ⟨h.np hg (by omega), h.np12 hg (by omega)⟩
theorem gDW.le {σ : gST} (h : gDW σ) : ∀ a, a < 48 → σ.1 17 a = lI (gLe σ a) := fun a ha => oA_l (h.2.2.2.1 a ha).1
theorem gDW.le48 {σ : gST} (h : gDW σ) : ∀ a b, a < 48 → gLe σ a = some b → b < 48 := fun a b ha hb => by
  have := oA_lt (k := 47) (h.2.2.2.1 a ha).2 hb
  omega
theorem gDW.kx {σ : gST} (h : gDW σ) {g : Nat} (hg : g < 24) : σ.1 22 g = lI (gKx σ g) := oA_l (h.2.2.2.2.1 g hg).1
theorem gDW.kx6 {σ : gST} (h : gDW σ) {g : Nat} (hg : g < 24) : ∀ a, gKx σ g = some a → a < 6 := fun a ha => by
  have := oA_lt (k := 5) (h.2.2.2.2.1 g hg).2 ha
  omega
theorem gDW.ky {σ : gST} (h : gDW σ) {g : Nat} (hg : g < 24) : σ.1 24 g = lI (gKy σ g) := oA_l (h.2.2.2.2.2.1 g hg).1
theorem gDW.ky6 {σ : gST} (h : gDW σ) {g : Nat} (hg : g < 24) : ∀ a, gKy σ g = some a → a < 6 := fun a ha => by
  have := oA_lt (k := 5) (h.2.2.2.2.2.1 g hg).2 ha
  omega
theorem gDW.ns {σ : gST} (h : gDW σ) {g : Nat} (hg : g < 24) : σ.1 31 g = nI (gNs σ g) := nA_n (h.2.2.2.2.2.2 g hg).1
theorem gDW.ns4 {σ : gST} (h : gDW σ) {g : Nat} (hg : g < 24) : gNs σ g ≤ 4 := nA_le (h.2.2.2.2.2.2 g hg).2
/-- a sidebearing, a kern, the advance -/
def gSd (σ : gST) (a : Nat) : Int32 := gVal (gLe σ) (σ.1 19) (σ.1 15) 48 a 0
def gKn (σ : gST) (g h : Nat) : Int32 := gKr (σ.1 28) (σ.1 26) (gKx σ g) (gKy σ h) g h
def gAdv (σ : gST) (g : Nat) : Int32 := gSd σ (g * 2 + 0) + gSd σ (g * 2 + 1) + gEx true (σ.1 10) (gNp σ g) g (gNc σ g) - gEx false (σ.1 10) (gNp σ g) g (gNc σ g)

set_option maxHeartbeats 4000000 in
set_option maxRecDepth 100000 in
theorem ctX1_advanceOf {κ : gK} {σ : gST} {g : Nat} (hW : gDW σ) (hg : g < 24) : gCt κ mX1_advanceOf 5 [.ref (κ.2.1 + 1), .int (nI g)] σ (.inl (some (.int (gAdv σ g)))) σ 0 := by
  refine ct_of (by decide +kernel) rfl (Nat.le_of_ble_eq_true rfl) rfl ?_
  refine go_aload_n (q := 1) (gDec iX1_advanceOf_ok 0 rfl) rfl rfl rfl ?_
  refine go_getr (r' := 13) (q := 4) fX1_21 (gDec iX1_advanceOf_ok 1 rfl) rfl (by decide) rfl ?_
  refine go_iload_n (q := 5) (gDec iX1_advanceOf_ok 2 rfl) rfl rfl rfl ?_
  refine go_iconst (v := 0) (q := 6) (gDec iX1_advanceOf_ok 3 rfl) (by decide) rfl ?_
  refine go_callV (n2 := 0) (q := 9) kX1_59 (ctX0_valueOf (g := g) (t := 0) (ld := gLe σ) (by omega) (by omega) hW.le hW.le48) (gDec iX1_advanceOf_ok 4 rfl) rfl rfl (by decide) rfl rfl rfl (Nat.le_of_ble_eq_true rfl) rfl (gFit_rm (by decide) (by decide)) rfl ?_
  refine go_aload_n (q := 10) (gDec iX1_advanceOf_ok 5 rfl) rfl rfl rfl ?_
  refine go_getr (r' := 13) (q := 13) fX1_21 (gDec iX1_advanceOf_ok 6 rfl) rfl (by decide) rfl ?_
  refine go_iload_n (q := 14) (gDec iX1_advanceOf_ok 7 rfl) rfl rfl rfl ?_
  refine go_iconst (v := 1) (q := 15) (gDec iX1_advanceOf_ok 8 rfl) (by decide) rfl ?_
  refine go_callV (n2 := 0) (q := 18) kX1_59 (ctX0_valueOf (g := g) (t := 1) (ld := gLe σ) (by omega) (by omega) hW.le hW.le48) (gDec iX1_advanceOf_ok 9 rfl) rfl rfl (by decide) rfl rfl rfl (Nat.le_of_ble_eq_true rfl) rfl (gFit_rm (by decide) (by decide)) rfl ?_
  refine go_iadd (q := 19) (gDec iX1_advanceOf_ok 10 rfl) rfl ?_
  refine go_aload_n (q := 20) (gDec iX1_advanceOf_ok 11 rfl) rfl rfl rfl ?_
  refine go_getr (r' := 2) (q := 23) fX1_12 (gDec iX1_advanceOf_ok 12 rfl) rfl (by decide) rfl ?_
  refine go_iload_n (q := 24) (gDec iX1_advanceOf_ok 13 rfl) rfl rfl rfl ?_
  refine go_iconst (v := 0) (q := 25) (gDec iX1_advanceOf_ok 14 rfl) (by decide) rfl ?_
  refine go_callV (n2 := 0) (q := 28) kX1_63 (ctX5_greatestx (g := g) (N := gNc σ g) (pm := gNp σ g) hg (hW.nc3 hg) (hW.nc hg) (hW.pm hg)) (gDec iX1_advanceOf_ok 15 rfl) rfl rfl (by decide) rfl rfl rfl (Nat.le_of_ble_eq_true rfl) rfl (gFit_rm (by decide) (by decide)) rfl ?_
  refine go_iadd (q := 29) (gDec iX1_advanceOf_ok 16 rfl) rfl ?_
  refine go_aload_n (q := 30) (gDec iX1_advanceOf_ok 17 rfl) rfl rfl rfl ?_
  refine go_getr (r' := 2) (q := 33) fX1_12 (gDec iX1_advanceOf_ok 18 rfl) rfl (by decide) rfl ?_
  refine go_iload_n (q := 34) (gDec iX1_advanceOf_ok 19 rfl) rfl rfl rfl ?_
  refine go_iconst (v := 0) (q := 35) (gDec iX1_advanceOf_ok 20 rfl) (by decide) rfl ?_
  refine go_callV (n2 := 0) (q := 38) kX1_67 (ctX5_leastx (g := g) (N := gNc σ g) (pm := gNp σ g) hg (hW.nc3 hg) (hW.nc hg) (hW.pm hg)) (gDec iX1_advanceOf_ok 21 rfl) rfl rfl (by decide) rfl rfl rfl (Nat.le_of_ble_eq_true rfl) rfl (gFit_rm (by decide) (by decide)) rfl ?_
  refine go_isub (q := 39) (gDec iX1_advanceOf_ok 22 rfl) rfl ?_
  exact go_ireturn (gDec iX1_advanceOf_ok 23 rfl) rfl rfl rfl rfl (by decide)

set_option maxHeartbeats 4000000 in
set_option maxRecDepth 100000 in
theorem lpX1_advanceSum {κ : gK} {Z : gZ} {σ : gST} (hW : gDW σ) : ∀ (m i : Nat) (a : Int32), i + m = (gNg σ) → Go κ mX1_advanceSum (gRm 6 0) Z 29 [(0, .ref (κ.2.1 + 1)), (1, .int (gLoop (fun g a => a + gAdv σ g) i m a)), (2, .int (nI (gNg σ)))] [] σ 0 → Go κ mX1_advanceSum (gRm 6 0) Z 4 [(0, .ref (κ.2.1 + 1)), (1, .int a), (2, .int (nI i))] [] σ 0 := by
  intro m
  induction m with
  | zero =>
    intro i a hi h
    have hn24 := hW.ng24
    have hiN : (gNg σ) = i := by omega
    rw [hiN] at h
    refine go_iload_n (q := 5) (gDec iX1_advanceSum_ok 4 rfl) rfl rfl rfl ?_
    refine go_aload_n (q := 6) (gDec iX1_advanceSum_ok 5 rfl) rfl rfl rfl ?_
    refine go_getr (r' := 2) (q := 9) fX1_12 (gDec iX1_advanceSum_ok 6 rfl) rfl (by decide) rfl ?_
    refine go_callV (n2 := 0) (q := 12) kX1_70 ctX5_glyphCount (gDec iX1_advanceSum_ok 7 rfl) rfl rfl (by decide) rfl rfl rfl (Nat.le_of_ble_eq_true rfl) rfl (gFit_rm (by decide) (by decide)) rfl ?_
    refine go_icmp_ge (t := 29) (q := 15) (gDec iX1_advanceSum_ok 8 rfl) (by decide) rfl (fun c12 => ?_) (fun c12 => False.elim (c12 (by rw [hW.ng]; exact nI_le (by omega) (by omega))))
    refine go_sub (L' := [(0, .ref (κ.2.1 + 1)), (1, .int a), (2, .int (nI i))]) ⟨rfl, rfl, rfl, trivial⟩ ?_
    exact h
  | succ m ih =>
    intro i a hi h
    have hn24 := hW.ng24
    refine go_iload_n (q := 5) (gDec iX1_advanceSum_ok 4 rfl) rfl rfl rfl ?_
    refine go_aload_n (q := 6) (gDec iX1_advanceSum_ok 5 rfl) rfl rfl rfl ?_
    refine go_getr (r' := 2) (q := 9) fX1_12 (gDec iX1_advanceSum_ok 6 rfl) rfl (by decide) rfl ?_
    refine go_callV (n2 := 0) (q := 12) kX1_70 ctX5_glyphCount (gDec iX1_advanceSum_ok 7 rfl) rfl rfl (by decide) rfl rfl rfl (Nat.le_of_ble_eq_true rfl) rfl (gFit_rm (by decide) (by decide)) rfl ?_
    refine go_icmp_ge (t := 29) (q := 15) (gDec iX1_advanceSum_ok 8 rfl) (by decide) rfl (fun c12 => False.elim (by rw [hW.ng] at c12; exact nI_ge (a := i) (b := (gNg σ)) (by omega) (by omega) c12)) (fun c12 => ?_)
    refine go_iload_n (q := 16) (gDec iX1_advanceSum_ok 9 rfl) rfl rfl rfl ?_
    refine go_aload_n (q := 17) (gDec iX1_advanceSum_ok 10 rfl) rfl rfl rfl ?_
    refine go_iload_n (q := 18) (gDec iX1_advanceSum_ok 11 rfl) rfl rfl rfl ?_
    refine go_callV (n2 := 0) (q := 21) kX1_74 (ctX1_advanceOf hW (by omega)) (gDec iX1_advanceSum_ok 12 rfl) rfl rfl (by decide) rfl rfl rfl (Nat.le_of_ble_eq_true rfl) rfl (gFit_rm (by decide) (by decide)) rfl ?_
    refine go_iadd (q := 22) (gDec iX1_advanceSum_ok 13 rfl) rfl ?_
    refine go_istore_n (q := 23) (gDec iX1_advanceSum_ok 14 rfl) rfl (by decide) rfl ?_
    refine go_iinc (v := nI (i + 1)) (q := 26) (gDec iX1_advanceSum_ok 15 rfl) rfl (nI_1 i) (by decide) rfl ?_
    refine go_goto (t := 4) (gDec iX1_advanceSum_ok 16 rfl) (by decide) ?_
    refine go_sub (L' := [(0, .ref (κ.2.1 + 1)), (1, .int ((fun g a => a + gAdv σ g) i a)), (2, .int (nI (i + 1)))]) ⟨rfl, rfl, rfl, trivial⟩ ?_
    exact ih (i + 1) ((fun g a => a + gAdv σ g) i a) (by omega) h

set_option maxHeartbeats 4000000 in
set_option maxRecDepth 100000 in
theorem ctX1_advanceSum {κ : gK} {σ : gST} (hW : gDW σ) : gCt κ mX1_advanceSum 6 [.ref (κ.2.1 + 1)] σ (.inl (some (.int (gLoop (fun g a => a + gAdv σ g) 0 (gNg σ) 0)))) σ 0 := by
  refine ct_of (by decide +kernel) rfl (Nat.le_of_ble_eq_true rfl) rfl ?_
  refine go_iconst (v := 0) (q := 1) (gDec iX1_advanceSum_ok 0 rfl) (by decide) rfl ?_
  refine go_istore_n (q := 2) (gDec iX1_advanceSum_ok 1 rfl) rfl (by decide) rfl ?_
  refine go_iconst (v := 0) (q := 3) (gDec iX1_advanceSum_ok 2 rfl) (by decide) rfl ?_
  refine go_istore_n (q := 4) (gDec iX1_advanceSum_ok 3 rfl) rfl (by decide) rfl ?_
  refine go_sub (L' := [(0, .ref (κ.2.1 + 1)), (1, .int 0), (2, .int (nI 0))]) ⟨rfl, rfl, rfl, trivial⟩ ?_
  refine lpX1_advanceSum hW (gNg σ) 0 0 (by omega) ?_
  refine go_iload_n (q := 30) (gDec iX1_advanceSum_ok 17 rfl) rfl rfl rfl ?_
  exact go_ireturn (gDec iX1_advanceSum_ok 18 rfl) rfl rfl rfl rfl (by decide)

set_option maxHeartbeats 4000000 in
set_option maxRecDepth 100000 in
theorem lpX1_pair2 {κ : gK} {Z : gZ} {σ : gST} {g : Nat} (hW : gDW σ) (hg : g < 24) : ∀ (m i : Nat) (a : Int32), i + m = (gNg σ) → Go κ mX1_kernedPairSum (gRm 5 0) Z 49 [(0, .ref (κ.2.1 + 1)), (1, .int (gLoop (fun h a => if gKn σ g h = 0 then a else a + 1) i m a)), (2, .int (nI g)), (3, .int (nI (gNg σ)))] [] σ 0 → Go κ mX1_kernedPairSum (gRm 5 0) Z 17 [(0, .ref (κ.2.1 + 1)), (1, .int a), (2, .int (nI g)), (3, .int (nI i))] [] σ 0 := by
  intro m
  induction m with
  | zero =>
    intro i a hi h
    have hn24 := hW.ng24
    have hiN : (gNg σ) = i := by omega
    rw [hiN] at h
    refine go_iload_n (q := 18) (gDec iX1_kernedPairSum_ok 11 rfl) rfl rfl rfl ?_
    refine go_aload_n (q := 19) (gDec iX1_kernedPairSum_ok 12 rfl) rfl rfl rfl ?_
    refine go_getr (r' := 2) (q := 22) fX1_12 (gDec iX1_kernedPairSum_ok 13 rfl) rfl (by decide) rfl ?_
    refine go_callV (n2 := 0) (q := 25) kX1_70 ctX5_glyphCount (gDec iX1_kernedPairSum_ok 14 rfl) rfl rfl (by decide) rfl rfl rfl (Nat.le_of_ble_eq_true rfl) rfl (gFit_rm (by decide) (by decide)) rfl ?_
    refine go_icmp_ge (t := 49) (q := 28) (gDec iX1_kernedPairSum_ok 15 rfl) (by decide) rfl (fun c25 => ?_) (fun c25 => False.elim (c25 (by rw [hW.ng]; exact nI_le (by omega) (by omega))))
    refine go_sub (L' := [(0, .ref (κ.2.1 + 1)), (1, .int a), (2, .int (nI g)), (3, .int (nI i))]) ⟨rfl, rfl, rfl, rfl, trivial⟩ ?_
    exact h
  | succ m ih =>
    intro i a hi h
    have hn24 := hW.ng24
    refine go_iload_n (q := 18) (gDec iX1_kernedPairSum_ok 11 rfl) rfl rfl rfl ?_
    refine go_aload_n (q := 19) (gDec iX1_kernedPairSum_ok 12 rfl) rfl rfl rfl ?_
    refine go_getr (r' := 2) (q := 22) fX1_12 (gDec iX1_kernedPairSum_ok 13 rfl) rfl (by decide) rfl ?_
    refine go_callV (n2 := 0) (q := 25) kX1_70 ctX5_glyphCount (gDec iX1_kernedPairSum_ok 14 rfl) rfl rfl (by decide) rfl rfl rfl (Nat.le_of_ble_eq_true rfl) rfl (gFit_rm (by decide) (by decide)) rfl ?_
    refine go_icmp_ge (t := 49) (q := 28) (gDec iX1_kernedPairSum_ok 15 rfl) (by decide) rfl (fun c25 => False.elim (by rw [hW.ng] at c25; exact nI_ge (a := i) (b := (gNg σ)) (by omega) (by omega) c25)) (fun c25 => ?_)
    refine go_aload_n (q := 29) (gDec iX1_kernedPairSum_ok 16 rfl) rfl rfl rfl ?_
    refine go_getr (r' := 20) (q := 32) fX1_28 (gDec iX1_kernedPairSum_ok 17 rfl) rfl (by decide) rfl ?_
    refine go_iload_n (q := 33) (gDec iX1_kernedPairSum_ok 18 rfl) rfl rfl rfl ?_
    refine go_iload_n (q := 34) (gDec iX1_kernedPairSum_ok 19 rfl) rfl rfl rfl ?_
    refine go_callV (n2 := 0) (q := 37) kX1_78 (ctX4_kernOf (g := g) (h := i) (x := gKx σ g) (y := gKy σ i) (by omega) (by omega) (hW.kx (by omega)) (hW.ky (by omega)) (hW.kx6 (by omega)) (hW.ky6 (by omega))) (gDec iX1_kernedPairSum_ok 20 rfl) rfl rfl (by decide) rfl rfl rfl (Nat.le_of_ble_eq_true rfl) rfl (gFit_rm (by decide) (by decide)) rfl ?_
    refine go_if_eq (t := 43) (q := 40) (gDec iX1_kernedPairSum_ok 21 rfl) (by decide) rfl (fun c37 => ?_) (fun c37 => ?_)
    · refine go_iinc (v := nI (i + 1)) (q := 46) (gDec iX1_kernedPairSum_ok 23 rfl) rfl (nI_1 i) (by decide) rfl ?_
      refine go_goto (t := 17) (gDec iX1_kernedPairSum_ok 24 rfl) (by decide) ?_
      refine go_sub (L' := [(0, .ref (κ.2.1 + 1)), (1, .int ((fun h a => if gKn σ g h = 0 then a else a + 1) i a)), (2, .int (nI g)), (3, .int (nI (i + 1)))]) ⟨rfl, (by first | (show _ = some (Value.int _); simp only [show gKn σ g i = 0 from c37, if_true]; rfl) | (show _ = some (Value.int _); simp only [show ¬ gKn σ g i = 0 from c37, if_false]; rfl)), rfl, rfl, trivial⟩ ?_
      exact ih (i + 1) _ (by omega) h
    · refine go_iinc (q := 43) (gDec iX1_kernedPairSum_ok 22 rfl) rfl rfl (by decide) rfl ?_
      refine go_iinc (v := nI (i + 1)) (q := 46) (gDec iX1_kernedPairSum_ok 23 rfl) rfl (nI_1 i) (by decide) rfl ?_
      refine go_goto (t := 17) (gDec iX1_kernedPairSum_ok 24 rfl) (by decide) ?_
      refine go_sub (L' := [(0, .ref (κ.2.1 + 1)), (1, .int ((fun h a => if gKn σ g h = 0 then a else a + 1) i a)), (2, .int (nI g)), (3, .int (nI (i + 1)))]) ⟨rfl, (by first | (show _ = some (Value.int _); simp only [show gKn σ g i = 0 from c37, if_true]; rfl) | (show _ = some (Value.int _); simp only [show ¬ gKn σ g i = 0 from c37, if_false]; rfl)), rfl, rfl, trivial⟩ ?_
      exact ih (i + 1) _ (by omega) h

set_option maxHeartbeats 4000000 in
set_option maxRecDepth 100000 in
theorem lpX1_pair1 {κ : gK} {Z : gZ} {σ : gST} (hW : gDW σ) : ∀ (m i : Nat) (a : Int32), i + m = (gNg σ) → Go κ mX1_kernedPairSum (gRm 5 0) Z 55 [(0, .ref (κ.2.1 + 1)), (1, .int (gLoop (fun g a => gLoop (fun h a => if gKn σ g h = 0 then a else a + 1) 0 (gNg σ) a) i m a)), (2, .int (nI (gNg σ)))] [] σ 0 → Go κ mX1_kernedPairSum (gRm 5 0) Z 4 [(0, .ref (κ.2.1 + 1)), (1, .int a), (2, .int (nI i))] [] σ 0 := by
  intro m
  induction m with
  | zero =>
    intro i a hi h
    have hn24 := hW.ng24
    have hiN : (gNg σ) = i := by omega
    rw [hiN] at h
    refine go_iload_n (q := 5) (gDec iX1_kernedPairSum_ok 4 rfl) rfl rfl rfl ?_
    refine go_aload_n (q := 6) (gDec iX1_kernedPairSum_ok 5 rfl) rfl rfl rfl ?_
    refine go_getr (r' := 2) (q := 9) fX1_12 (gDec iX1_kernedPairSum_ok 6 rfl) rfl (by decide) rfl ?_
    refine go_callV (n2 := 0) (q := 12) kX1_70 ctX5_glyphCount (gDec iX1_kernedPairSum_ok 7 rfl) rfl rfl (by decide) rfl rfl rfl (Nat.le_of_ble_eq_true rfl) rfl (gFit_rm (by decide) (by decide)) rfl ?_
    refine go_icmp_ge (t := 55) (q := 15) (gDec iX1_kernedPairSum_ok 8 rfl) (by decide) rfl (fun c12 => ?_) (fun c12 => False.elim (c12 (by rw [hW.ng]; exact nI_le (by omega) (by omega))))
    refine go_sub (L' := [(0, .ref (κ.2.1 + 1)), (1, .int a), (2, .int (nI i))]) ⟨rfl, rfl, rfl, trivial⟩ ?_
    exact h
  | succ m ih =>
    intro i a hi h
    have hn24 := hW.ng24
    refine go_iload_n (q := 5) (gDec iX1_kernedPairSum_ok 4 rfl) rfl rfl rfl ?_
    refine go_aload_n (q := 6) (gDec iX1_kernedPairSum_ok 5 rfl) rfl rfl rfl ?_
    refine go_getr (r' := 2) (q := 9) fX1_12 (gDec iX1_kernedPairSum_ok 6 rfl) rfl (by decide) rfl ?_
    refine go_callV (n2 := 0) (q := 12) kX1_70 ctX5_glyphCount (gDec iX1_kernedPairSum_ok 7 rfl) rfl rfl (by decide) rfl rfl rfl (Nat.le_of_ble_eq_true rfl) rfl (gFit_rm (by decide) (by decide)) rfl ?_
    refine go_icmp_ge (t := 55) (q := 15) (gDec iX1_kernedPairSum_ok 8 rfl) (by decide) rfl (fun c12 => False.elim (by rw [hW.ng] at c12; exact nI_ge (a := i) (b := (gNg σ)) (by omega) (by omega) c12)) (fun c12 => ?_)
    refine go_iconst (v := 0) (q := 16) (gDec iX1_kernedPairSum_ok 9 rfl) (by decide) rfl ?_
    refine go_istore_n (q := 17) (gDec iX1_kernedPairSum_ok 10 rfl) rfl (by decide) rfl ?_
    refine go_sub (L' := [(0, .ref (κ.2.1 + 1)), (1, .int a), (2, .int (nI i)), (3, .int (nI 0))]) ⟨rfl, rfl, rfl, rfl, trivial⟩ ?_
    refine lpX1_pair2 hW (by omega) (gNg σ) 0 a (by omega) ?_
    refine go_iinc (v := nI (i + 1)) (q := 52) (gDec iX1_kernedPairSum_ok 25 rfl) rfl (nI_1 i) (by decide) rfl ?_
    refine go_goto (t := 4) (gDec iX1_kernedPairSum_ok 26 rfl) (by decide) ?_
    refine go_sub (L' := [(0, .ref (κ.2.1 + 1)), (1, .int ((fun g a => gLoop (fun h a => if gKn σ g h = 0 then a else a + 1) 0 (gNg σ) a) i a)), (2, .int (nI (i + 1)))]) ⟨rfl, rfl, rfl, trivial⟩ ?_
    exact ih (i + 1) ((fun g a => gLoop (fun h a => if gKn σ g h = 0 then a else a + 1) 0 (gNg σ) a) i a) (by omega) h

set_option maxHeartbeats 4000000 in
set_option maxRecDepth 100000 in
theorem ctX1_kernedPairSum {κ : gK} {σ : gST} (hW : gDW σ) : gCt κ mX1_kernedPairSum 5 [.ref (κ.2.1 + 1)] σ (.inl (some (.int (gLoop (fun g a => gLoop (fun h a => if gKn σ g h = 0 then a else a + 1) 0 (gNg σ) a) 0 (gNg σ) 0)))) σ 0 := by
  refine ct_of (by decide +kernel) rfl (Nat.le_of_ble_eq_true rfl) rfl ?_
  refine go_iconst (v := 0) (q := 1) (gDec iX1_kernedPairSum_ok 0 rfl) (by decide) rfl ?_
  refine go_istore_n (q := 2) (gDec iX1_kernedPairSum_ok 1 rfl) rfl (by decide) rfl ?_
  refine go_iconst (v := 0) (q := 3) (gDec iX1_kernedPairSum_ok 2 rfl) (by decide) rfl ?_
  refine go_istore_n (q := 4) (gDec iX1_kernedPairSum_ok 3 rfl) rfl (by decide) rfl ?_
  refine go_sub (L' := [(0, .ref (κ.2.1 + 1)), (1, .int 0), (2, .int (nI 0))]) ⟨rfl, rfl, rfl, trivial⟩ ?_
  refine lpX1_pair1 hW (gNg σ) 0 0 (by omega) ?_
  refine go_iload_n (q := 56) (gDec iX1_kernedPairSum_ok 27 rfl) rfl rfl rfl ?_
  exact go_ireturn (gDec iX1_kernedPairSum_ok 28 rfl) rfl rfl rfl rfl (by decide)

/-- the i-th bit -/
def gBit : Nat → Int64
  | 0 => 1
  | n + 1 => gBit n <<< ((1 : Int32).toInt64 &&& 63)
def gMsk (P : Nat → Bool) : Nat → Int64
  | 0 => 0
  | n + 1 => bif P n then gMsk P n ||| gBit n else gMsk P n
/-- whether the edge from (lx, ly) up to (hx, hy) lies to the right of column c's middle -/
def gEb (lx ly hx hy c : Int32) : Bool := decide (¬ lg_cmp ((lx - (2 * c + 1) * 500).toInt64 * hy.toInt64) ((hx - (2 * c + 1) * 500).toInt64 * ly.toInt64) ≤ 0)
theorem gCol_toInt {F : Int32} {i : Nat} (hF : -1000 ≤ F.toInt ∧ F.toInt ≤ 1000) (hi : i ≤ 1000) : (F + nI i).toInt = F.toInt + i := by
  rw [Int32.toInt_add, nI_toInt (by omega)]
  exact Int.bmod_eq_of_le_mul_two (by omega) (by omega)
theorem gCol_1 (F : Int32) (i : Nat) : F + nI i + 1 = F + nI (i + 1) := by rw [Int32.add_assoc, nI_1]
theorem gCol_gt {F : Int32} {i n : Nat} (hF : -1000 ≤ F.toInt ∧ F.toInt ≤ 1000) (hi : i ≤ 1000) (hn : n ≤ 1000) : (F + nI n < F + nI i) ↔ n < i := by
  rw [Int32.lt_iff_toInt_lt, gCol_toInt hF hi, gCol_toInt hF hn]
  omega

set_option maxHeartbeats 4000000 in
set_option maxRecDepth 100000 in
theorem lpX5_bits {κ : gK} {σ σ' : gST} {n : Nat} {lx ly hx hy F : Int32} {o : gO} (hF : -1000 ≤ F.toInt ∧ F.toInt ≤ 1000) (hn : n ≤ 100) (hσ : σ' = σ) (ho : o = .inl (some (.long (gMsk (fun k => gEb lx ly hx hy (F + nI k)) (n + 1))))) : ∀ (m i : Nat), i + m = n + 1 → Go κ mX5_bitsBefore (gRm 0 0) (gZm κ o σ' 0) 10 [(0, .int lx), (1, .int ly), (2, .int hx), (3, .int hy), (5, .int (F + nI n)), (6, .long (gMsk (fun k => gEb lx ly hx hy (F + nI k)) i)), (8, .long (gBit i)), (10, .int (F + nI i))] [] σ 0 := by
  intro m
  induction m with
  | zero =>
    intro i hi
    have hi2 : i = n + 1 := by omega
    subst hi2
    refine go_iload (q := 12) (gDec iX5_bitsBefore_ok 6 rfl) rfl rfl ?_
    refine go_iload (q := 14) (gDec iX5_bitsBefore_ok 7 rfl) rfl rfl ?_
    refine go_icmp_gt (t := 68) (q := 17) (gDec iX5_bitsBefore_ok 8 rfl) (by decide) rfl (fun c14 => ?_) (fun c14 => False.elim (c14 ((gCol_gt hF (by omega) (by omega)).mpr (by omega))))
    refine go_lload (q := 70) (gDec iX5_bitsBefore_ok 43 rfl) rfl rfl ?_
    exact go_lreturn (gDec iX5_bitsBefore_ok 44 rfl) rfl ho hσ (by decide)
  | succ m ih =>
    intro i hi
    refine go_iload (q := 12) (gDec iX5_bitsBefore_ok 6 rfl) rfl rfl ?_
    refine go_iload (q := 14) (gDec iX5_bitsBefore_ok 7 rfl) rfl rfl ?_
    refine go_icmp_gt (t := 68) (q := 17) (gDec iX5_bitsBefore_ok 8 rfl) (by decide) rfl (fun c14 => False.elim (absurd ((gCol_gt hF (by omega) (by omega)).mp c14) (by omega))) (fun c14 => ?_)
    refine go_iconst (v := 2) (q := 18) (gDec iX5_bitsBefore_ok 9 rfl) (by decide) rfl ?_
    refine go_iload (q := 20) (gDec iX5_bitsBefore_ok 10 rfl) rfl rfl ?_
    refine go_imul (q := 21) (gDec iX5_bitsBefore_ok 11 rfl) rfl ?_
    refine go_iconst (v := 1) (q := 22) (gDec iX5_bitsBefore_ok 12 rfl) (by decide) rfl ?_
    refine go_iadd (q := 23) (gDec iX5_bitsBefore_ok 13 rfl) rfl ?_
    refine go_sipush (v := 500) (q := 26) (gDec iX5_bitsBefore_ok 14 rfl) (by decide) rfl ?_
    refine go_imul (q := 27) (gDec iX5_bitsBefore_ok 15 rfl) rfl ?_
    refine go_istore (q := 29) (gDec iX5_bitsBefore_ok 16 rfl) (by decide) rfl ?_
    refine go_iload_n (q := 30) (gDec iX5_bitsBefore_ok 17 rfl) rfl rfl rfl ?_
    refine go_iload (q := 32) (gDec iX5_bitsBefore_ok 18 rfl) rfl rfl ?_
    refine go_isub (q := 33) (gDec iX5_bitsBefore_ok 19 rfl) rfl ?_
    refine go_i2l (q := 34) (gDec iX5_bitsBefore_ok 20 rfl) rfl ?_
    refine go_iload_n (q := 35) (gDec iX5_bitsBefore_ok 21 rfl) rfl rfl rfl ?_
    refine go_i2l (q := 36) (gDec iX5_bitsBefore_ok 22 rfl) rfl ?_
    refine go_lmul (q := 37) (gDec iX5_bitsBefore_ok 23 rfl) rfl ?_
    refine go_iload_n (q := 38) (gDec iX5_bitsBefore_ok 24 rfl) rfl rfl rfl ?_
    refine go_iload (q := 40) (gDec iX5_bitsBefore_ok 25 rfl) rfl rfl ?_
    refine go_isub (q := 41) (gDec iX5_bitsBefore_ok 26 rfl) rfl ?_
    refine go_i2l (q := 42) (gDec iX5_bitsBefore_ok 27 rfl) rfl ?_
    refine go_iload_n (q := 43) (gDec iX5_bitsBefore_ok 28 rfl) rfl rfl rfl ?_
    refine go_i2l (q := 44) (gDec iX5_bitsBefore_ok 29 rfl) rfl ?_
    refine go_lmul (q := 45) (gDec iX5_bitsBefore_ok 30 rfl) rfl ?_
    refine go_lcmp (q := 46) (gDec iX5_bitsBefore_ok 31 rfl) rfl ?_
    refine go_if_le (t := 56) (q := 49) (gDec iX5_bitsBefore_ok 32 rfl) (by decide) rfl (fun c46 => ?_) (fun c46 => ?_)
    · refine go_lload (q := 58) (gDec iX5_bitsBefore_ok 37 rfl) rfl rfl ?_
      refine go_iconst (v := 1) (q := 59) (gDec iX5_bitsBefore_ok 38 rfl) (by decide) rfl ?_
      refine go_lshl (q := 60) (gDec iX5_bitsBefore_ok 39 rfl) rfl ?_
      refine go_lstore (q := 62) (gDec iX5_bitsBefore_ok 40 rfl) (by decide) rfl ?_
      refine go_iinc (v := F + nI (i + 1)) (q := 65) (gDec iX5_bitsBefore_ok 41 rfl) rfl (gCol_1 F i) (by decide) rfl ?_
      refine go_goto (t := 10) (gDec iX5_bitsBefore_ok 42 rfl) (by decide) ?_
      refine go_sub (L' := [(0, .int lx), (1, .int ly), (2, .int hx), (3, .int hy), (5, .int (F + nI n)), (6, .long (gMsk (fun k => gEb lx ly hx hy (F + nI k)) (i + 1))), (8, .long (gBit (i + 1))), (10, .int (F + nI (i + 1)))]) ⟨rfl, rfl, rfl, rfl, rfl, (by first | (show _ = some (Value.long _); rw [gMsk, show gEb lx ly hx hy (F + nI i) = true from decide_eq_true c46]; rfl) | (show _ = some (Value.long _); rw [gMsk, show gEb lx ly hx hy (F + nI i) = false from decide_eq_false (fun h9 => h9 c46)]; rfl)), rfl, rfl, trivial⟩ ?_
      exact ih (i + 1) (by omega)
    · refine go_lload (q := 51) (gDec iX5_bitsBefore_ok 33 rfl) rfl rfl ?_
      refine go_lload (q := 53) (gDec iX5_bitsBefore_ok 34 rfl) rfl rfl ?_
      refine go_lor (q := 54) (gDec iX5_bitsBefore_ok 35 rfl) rfl ?_
      refine go_lstore (q := 56) (gDec iX5_bitsBefore_ok 36 rfl) (by decide) rfl ?_
      refine go_lload (q := 58) (gDec iX5_bitsBefore_ok 37 rfl) rfl rfl ?_
      refine go_iconst (v := 1) (q := 59) (gDec iX5_bitsBefore_ok 38 rfl) (by decide) rfl ?_
      refine go_lshl (q := 60) (gDec iX5_bitsBefore_ok 39 rfl) rfl ?_
      refine go_lstore (q := 62) (gDec iX5_bitsBefore_ok 40 rfl) (by decide) rfl ?_
      refine go_iinc (v := F + nI (i + 1)) (q := 65) (gDec iX5_bitsBefore_ok 41 rfl) rfl (gCol_1 F i) (by decide) rfl ?_
      refine go_goto (t := 10) (gDec iX5_bitsBefore_ok 42 rfl) (by decide) ?_
      refine go_sub (L' := [(0, .int lx), (1, .int ly), (2, .int hx), (3, .int hy), (5, .int (F + nI n)), (6, .long (gMsk (fun k => gEb lx ly hx hy (F + nI k)) (i + 1))), (8, .long (gBit (i + 1))), (10, .int (F + nI (i + 1)))]) ⟨rfl, rfl, rfl, rfl, rfl, (by first | (show _ = some (Value.long _); rw [gMsk, show gEb lx ly hx hy (F + nI i) = true from decide_eq_true c46]; rfl) | (show _ = some (Value.long _); rw [gMsk, show gEb lx ly hx hy (F + nI i) = false from decide_eq_false (fun h9 => h9 c46)]; rfl)), rfl, rfl, trivial⟩ ?_
      exact ih (i + 1) (by omega)

set_option maxHeartbeats 4000000 in
set_option maxRecDepth 100000 in
theorem ctX5_bitsBefore {κ : gK} {σ : gST} {n : Nat} {lx ly hx hy F : Int32} (hF : -1000 ≤ F.toInt ∧ F.toInt ≤ 1000) (hn : n ≤ 100) : gCt κ mX5_bitsBefore 0 [.int lx, .int ly, .int hx, .int hy, .int F, .int (F + nI n)] σ (.inl (some (.long (gMsk (fun k => gEb lx ly hx hy (F + nI k)) (n + 1))))) σ 0 := by
  refine ct_of (by decide +kernel) rfl (Nat.le_of_ble_eq_true rfl) rfl ?_
  refine go_lconst (v := 0) (q := 1) (gDec iX5_bitsBefore_ok 0 rfl) (by decide) rfl ?_
  refine go_lstore (q := 3) (gDec iX5_bitsBefore_ok 1 rfl) (by decide) rfl ?_
  refine go_lconst (v := 1) (q := 4) (gDec iX5_bitsBefore_ok 2 rfl) (by decide) rfl ?_
  refine go_lstore (q := 6) (gDec iX5_bitsBefore_ok 3 rfl) (by decide) rfl ?_
  refine go_iload (q := 8) (gDec iX5_bitsBefore_ok 4 rfl) rfl rfl ?_
  refine go_istore (q := 10) (gDec iX5_bitsBefore_ok 5 rfl) (by decide) rfl ?_
  refine go_sub (L' := [(0, .int lx), (1, .int ly), (2, .int hx), (3, .int hy), (5, .int (F + nI n)), (6, .long (gMsk (fun k => gEb lx ly hx hy (F + nI k)) 0)), (8, .long (gBit 0)), (10, .int (F + nI 0))]) ⟨rfl, rfl, rfl, rfl, rfl, rfl, rfl, (by show some (Value.int F) = _; rw [show nI 0 = 0 from rfl, Int32.add_zero]), trivial⟩ ?_
  exact lpX5_bits hF hn rfl rfl (n + 1) 0 (by omega)
