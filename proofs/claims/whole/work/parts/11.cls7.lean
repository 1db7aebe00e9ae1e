def iX1_copyFrom : List (Nat × Instr × Nat) := [(0, .aload_n 0, 1), (1, .getfield 12, 3), (4, .aload_n 1, 1), (5, .getfield 12, 3), (8, .invokevirtual 46, 3), (11, .aload_n 0, 1), (12, .getfield 21, 3), (15, .aload_n 1, 1), (16, .getfield 21, 3), (19, .invokevirtual 50, 3), (22, .aload_n 0, 1), (23, .getfield 28, 3), (26, .aload_n 1, 1), (27, .getfield 28, 3), (30, .invokevirtual 53, 3), (33, .aload_n 0, 1), (34, .getfield 35, 3), (37, .aload_n 1, 1), (38, .getfield 35, 3), (41, .invokevirtual 56, 3), (44, .aload_n 0, 1), (45, .aload_n 1, 1), (46, .getfield 39, 3), (49, .putfield 39, 3), (52, .aload_n 0, 1), (53, .aload_n 1, 1), (54, .getfield 43, 3), (57, .putfield 43, 3), (60, .return_, 1)]
theorem iX1_copyFrom_ok : gDecs mX1_copyFrom iX1_copyFrom := by decide +kernel
def iX1_advanceOf : List (Nat × Instr × Nat) := [(0, .aload_n 0, 1), (1, .getfield 21, 3), (4, .iload_n 1, 1), (5, .iconst 0, 1), (6, .invokevirtual 59, 3), (9, .aload_n 0, 1), (10, .getfield 21, 3), (13, .iload_n 1, 1), (14, .iconst 1, 1), (15, .invokevirtual 59, 3), (18, .iadd, 1), (19, .aload_n 0, 1), (20, .getfield 12, 3), (23, .iload_n 1, 1), (24, .iconst 0, 1), (25, .invokevirtual 63, 3), (28, .iadd, 1), (29, .aload_n 0, 1), (30, .getfield 12, 3), (33, .iload_n 1, 1), (34, .iconst 0, 1), (35, .invokevirtual 67, 3), (38, .isub, 1), (39, .ireturn, 1)]
theorem iX1_advanceOf_ok : gDecs mX1_advanceOf iX1_advanceOf := by decide +kernel
def iX1_advanceSum : List (Nat × Instr × Nat) := [(0, .iconst 0, 1), (1, .istore_n 1, 1), (2, .iconst 0, 1), (3, .istore_n 2, 1), (4, .iload_n 2, 1), (5, .aload_n 0, 1), (6, .getfield 12, 3), (9, .invokevirtual 70, 3), (12, .if_icmp .ge 17, 3), (15, .iload_n 1, 1), (16, .aload_n 0, 1), (17, .iload_n 2, 1), (18, .invokevirtual 74, 3), (21, .iadd, 1), (22, .istore_n 1, 1), (23, .iinc 2 1, 3), (26, .goto (-22), 3), (29, .iload_n 1, 1), (30, .ireturn, 1)]
theorem iX1_advanceSum_ok : gDecs mX1_advanceSum iX1_advanceSum := by decide +kernel
def iX1_kernedPairSum : List (Nat × Instr × Nat) := [(0, .iconst 0, 1), (1, .istore_n 1, 1), (2, .iconst 0, 1), (3, .istore_n 2, 1), (4, .iload_n 2, 1), (5, .aload_n 0, 1), (6, .getfield 12, 3), (9, .invokevirtual 70, 3), (12, .if_icmp .ge 43, 3), (15, .iconst 0, 1), (16, .istore_n 3, 1), (17, .iload_n 3, 1), (18, .aload_n 0, 1), (19, .getfield 12, 3), (22, .invokevirtual 70, 3), (25, .if_icmp .ge 24, 3), (28, .aload_n 0, 1), (29, .getfield 28, 3), (32, .iload_n 2, 1), (33, .iload_n 3, 1), (34, .invokevirtual 78, 3), (37, .ifCond .eq 6, 3), (40, .iinc 1 1, 3), (43, .iinc 3 1, 3), (46, .goto (-29), 3), (49, .iinc 2 1, 3), (52, .goto (-48), 3), (55, .iload_n 1, 1), (56, .ireturn, 1)]
theorem iX1_kernedPairSum_ok : gDecs mX1_kernedPairSum iX1_kernedPairSum := by decide +kernel
def iX3_size : List (Nat × Instr × Nat) := [(0, .aload_n 0, 1), (1, .getfield 21, 3), (4, .ireturn, 1)]
theorem iX3_size_ok : gDecs mX3_size iX3_size := by decide +kernel
def iX3_remember : List (Nat × Instr × Nat) := [(0, .aload_n 0, 1), (1, .aload_n 0, 1), (2, .getfield 17, 3), (5, .invokevirtual 25, 3), (8, .astore_n 2, 1), (9, .aload_n 2, 1), (10, .ifnull 8, 3), (13, .aload_n 2, 1), (14, .aload_n 1, 1), (15, .invokevirtual 29, 3), (18, .aload_n 0, 1), (19, .aload_n 0, 1), (20, .getfield 17, 3), (23, .iconst 1, 1), (24, .iadd, 1), (25, .bipush 8, 2), (27, .irem, 1), (28, .putfield 17, 3), (31, .aload_n 0, 1), (32, .aload_n 0, 1), (33, .getfield 21, 3), (36, .iconst 1, 1), (37, .iadd, 1), (38, .bipush 8, 2), (40, .invokestatic 33, 3), (43, .putfield 21, 3), (46, .return_, 1)]
theorem iX3_remember_ok : gDecs mX3_remember iX3_remember := by decide +kernel
def iX3_takeBack : List (Nat × Instr × Nat) := [(0, .aload_n 0, 1), (1, .aload_n 0, 1), (2, .getfield 17, 3), (5, .bipush 8, 2), (7, .iadd, 1), (8, .iconst 1, 1), (9, .isub, 1), (10, .bipush 8, 2), (12, .irem, 1), (13, .putfield 17, 3), (16, .aload_n 0, 1), (17, .aload_n 0, 1), (18, .getfield 21, 3), (21, .iconst 1, 1), (22, .isub, 1), (23, .iconst 0, 1), (24, .invokestatic 39, 3), (27, .putfield 21, 3), (30, .aload_n 0, 1), (31, .aload_n 0, 1), (32, .getfield 17, 3), (35, .invokevirtual 25, 3), (38, .astore_n 2, 1), (39, .aload_n 2, 1), (40, .ifnull 8, 3), (43, .aload_n 1, 1), (44, .aload_n 2, 1), (45, .invokevirtual 29, 3), (48, .return_, 1)]
theorem iX3_takeBack_ok : gDecs mX3_takeBack iX3_takeBack := by decide +kernel
def iX3_forget : List (Nat × Instr × Nat) := [(0, .aload_n 0, 1), (1, .iconst 0, 1), (2, .putfield 21, 3), (5, .return_, 1)]
theorem iX3_forget_ok : gDecs mX3_forget iX3_forget := by decide +kernel
def iX3_slot : List (Nat × Instr × Nat) := [(0, .iload_n 1, 1), (1, .ifCond .lt 21, 3), (4, .iload_n 1, 1), (5, .aload_n 0, 1), (6, .getfield 11, 3), (9, .arraylength, 1), (10, .if_icmp .ge 12, 3), (13, .aload_n 0, 1), (14, .getfield 11, 3), (17, .iload_n 1, 1), (18, .aaload, 1), (19, .goto 4, 3), (22, .aconst_null, 1), (23, .areturn, 1)]
theorem iX3_slot_ok : gDecs mX3_slot iX3_slot := by decide +kernel
def iX9_length : List (Nat × Instr × Nat) := [(0, .aload_n 0, 1), (1, .getfield 20, 3), (4, .ireturn, 1)]
theorem iX9_length_ok : gDecs mX9_length iX9_length := by decide +kernel
def iX9_isFull : List (Nat × Instr × Nat) := [(0, .aload_n 0, 1), (1, .getfield 20, 3), (4, .bipush 60, 2), (6, .if_icmp .lt 7, 3), (9, .iconst 1, 1), (10, .goto 4, 3), (13, .iconst 0, 1), (14, .ireturn, 1)]
theorem iX9_isFull_ok : gDecs mX9_isFull iX9_isFull := by decide +kernel
def iX9_signAt : List (Nat × Instr × Nat) := [(0, .aload_n 0, 1), (1, .getfield 14, 3), (4, .iload_n 1, 1), (5, .invokevirtual 24, 3), (8, .ireturn, 1)]
theorem iX9_signAt_ok : gDecs mX9_signAt iX9_signAt := by decide +kernel
def iX9_add : List (Nat × Instr × Nat) := [(0, .aload_n 0, 1), (1, .getfield 14, 3), (4, .aload_n 0, 1), (5, .getfield 20, 3), (8, .iload_n 1, 1), (9, .invokevirtual 28, 3), (12, .aload_n 0, 1), (13, .dup, 1), (14, .getfield 20, 3), (17, .iconst 1, 1), (18, .iadd, 1), (19, .putfield 20, 3), (22, .return_, 1)]
theorem iX9_add_ok : gDecs mX9_add iX9_add := by decide +kernel
def iX9_clear : List (Nat × Instr × Nat) := [(0, .aload_n 0, 1), (1, .iconst 0, 1), (2, .putfield 20, 3), (5, .return_, 1)]
theorem iX9_clear_ok : gDecs mX9_clear iX9_clear := by decide +kernel

/-- what a copy takes: of the k-th object the first n ints, or the n-th alone -/
abbrev gCpL := List (Nat × Bool × Nat)
def gIn (l : gCpL) (k i : Nat) : Bool := l.any (fun q => Nat.beq q.1 k && (bif q.2.1 then Nat.blt i q.2.2 else Nat.beq i q.2.2))
theorem gIn_app (l m : gCpL) (k i : Nat) : gIn (l ++ m) k i = (gIn l k i || gIn m k i) := by unfold gIn; exact List.any_append
/-- the design at o2 copied into that at o, as far as l says -/
def gDc (l : gCpL) (σ : gST) (o o2 : Nat) : gST := (fun a i => if o ≤ a ∧ a < o + 35 ∧ gIn l (a - o) i = true then σ.1 (o2 + (a - o)) i else σ.1 a i, σ.2)
theorem gDc_nil (σ : gST) (o o2 : Nat) : σ = gDc [] σ o o2 := by
  unfold gDc
  have h : (fun a i => if o ≤ a ∧ a < o + 35 ∧ gIn [] (a - o) i = true then σ.1 (o2 + (a - o)) i else σ.1 a i) = σ.1 := by
    funext a i
    rw [if_neg (fun h => by cases h.2.2)]
  rw [h]
theorem gDc_app {l m : gCpL} {σ : gST} {o o2 : Nat} (hd : o + 35 ≤ o2 ∨ o2 + 35 ≤ o) : gDc m (gDc l σ o o2) o o2 = gDc (l ++ m) σ o o2 := by
  unfold gDc
  refine congrArg (fun f => (f, σ.2)) ?_
  funext a i
  by_cases h : o ≤ a ∧ a < o + 35
  · have hn : ¬ (o ≤ o2 + (a - o) ∧ o2 + (a - o) < o + 35 ∧ gIn l (o2 + (a - o) - o) i = true) := by omega
    dsimp only
    rw [if_neg hn, gIn_app]
    cases gIn m (a - o) i <;> cases gIn l (a - o) i <;> simp [h]
  · dsimp only
    rw [if_neg (fun h9 => h ⟨h9.1, h9.2.1⟩), if_neg (fun h9 => h ⟨h9.1, h9.2.1⟩), if_neg (fun h9 => h ⟨h9.1, h9.2.1⟩)]
theorem gDc_row (σ : gST) (o o2 k len : Nat) (hk : k < 35) : (gSA σ.1 (o + k) (gCpN (σ.1 (o2 + k)) (σ.1 (o + k)) len), σ.2) = gDc [(k, true, len)] σ o o2 := by
  unfold gDc gSA gCpN
  refine congrArg (fun f => (f, σ.2)) ?_
  funext a
  by_cases h : a = o + k
  · subst h
    funext i
    rw [if_pos rfl, Nat.add_sub_cancel_left]
    by_cases h2 : i < len
    · rw [if_pos h2, if_pos ⟨by omega, by omega, by simp [gIn, h2, Nat.blt_eq]⟩]
    · rw [if_neg h2, if_neg (fun h9 => h2 (by have := h9.2.2; simpa [gIn, Nat.blt_eq] using this))]
  · rw [if_neg h]
    funext i
    rw [if_neg]
    intro h9
    have h3 := h9.2.2
    simp [gIn] at h3
    omega
theorem gDc_fld (σ : gST) (o o2 k x : Nat) (hk : k < 35) : gPut σ (o + k) x (σ.1 (o2 + k) x) = gDc [(k, false, x)] σ o o2 := by
  unfold gDc gPut gSA upd
  refine congrArg (fun f => (f, σ.2)) ?_
  funext a
  by_cases h : a = o + k
  · subst h
    funext i
    rw [if_pos rfl, Nat.add_sub_cancel_left]
    by_cases h2 : i = x
    · subst h2
      rw [if_pos rfl, if_pos ⟨by omega, by omega, by simp [gIn]⟩]
    · rw [if_neg h2, if_neg (fun h9 => h2 (by have := h9.2.2; simpa [gIn] using this))]
  · rw [if_neg h]
    funext i
    rw [if_neg]
    intro h9
    have h3 := h9.2.2
    simp [gIn] at h3
    omega
theorem gDc_rowA {l : gCpL} {σ : gST} {o o2 : Nat} (k len : Nat) (hd : o + 35 ≤ o2 ∨ o2 + 35 ≤ o) (hk : k < 35) : (gSA (gDc l σ o o2).1 (o + k) (gCpN ((gDc l σ o o2).1 (o2 + k)) ((gDc l σ o o2).1 (o + k)) len), (gDc l σ o o2).2) = gDc (l ++ [(k, true, len)]) σ o o2 :=
  (gDc_row _ o o2 k len hk).trans (gDc_app hd)
theorem gDc_fldA {l : gCpL} {σ : gST} {o o2 : Nat} (k x : Nat) (hd : o + 35 ≤ o2 ∨ o2 + 35 ≤ o) (hk : k < 35) : gPut (gDc l σ o o2) (o + k) x ((gDc l σ o o2).1 (o2 + k) x) = gDc (l ++ [(k, false, x)]) σ o o2 :=
  (gDc_fld _ o o2 k x hk).trans (gDc_app hd)
theorem gDc_2 (l : gCpL) (σ : gST) (o o2 : Nat) : (gDc l σ o o2).2 = σ.2 := rfl

abbrev gLX5_copyFrom : gCpL := [(3, true, 24), (5, true, 24), (7, true, 72), (9, true, 864), (11, true, 864), (1, false, 5)]
set_option maxHeartbeats 4000000 in
set_option maxRecDepth 100000 in
theorem ctX5_copyFrom {κ : gK} {σ : gST} {o o2 : Nat} (hD : gIsD o) (hD2 : gIsD o2) (ho : o + 35 ≤ gN) (ho2 : o2 + 35 ≤ gN) (hd : o + 35 ≤ o2 ∨ o2 + 35 ≤ o) : gCt κ mX5_copyFrom 2 [.ref (κ.2.1 + (o + 1)), .ref (κ.2.1 + (o2 + 1))] σ (.inl none) (gDc gLX5_copyFrom σ o o2) 0 := by
  refine ct_of (by decide +kernel) rfl (Nat.le_of_ble_eq_true rfl) rfl ?_
  refine go_w (gDc_nil σ o o2) ?_
  refine go_aload_n (q := 1) (gDec iX5_copyFrom_ok 0 rfl) rfl rfl rfl ?_
  refine go_getr (r' := o + 2) (q := 4) fX5_14 (gDec iX5_copyFrom_ok 1 rfl) (gFd_D hD (by decide) rfl) (by omega) rfl ?_
  refine go_aload_n (q := 5) (gDec iX5_copyFrom_ok 2 rfl) rfl rfl rfl ?_
  refine go_getr (r' := o2 + 2) (q := 8) fX5_14 (gDec iX5_copyFrom_ok 3 rfl) (gFd_D hD2 (by decide) rfl) (by omega) rfl ?_
  refine go_callV (n2 := 0) (q := 11) kX5_36 (ctX7_copyFrom (r := o + 2) (r2 := o2 + 2) (a := o + 3) (a2 := o2 + 3) (len := 24) (gFd_D hD (by decide) rfl) (hD 3 (by decide)) (by omega) (by omega) (gFd_D hD2 (by decide) rfl) (hD2 3 (by decide)) (by omega) (by omega) (by decide)) (gDec iX5_copyFrom_ok 4 rfl) rfl (hD _ (by decide)) (by omega) rfl rfl rfl (Nat.le_of_ble_eq_true rfl) rfl (gFit_rm (by decide) (by decide)) rfl ?_
  refine go_w (gDc_rowA 3 24 hd (by decide)) ?_
  refine go_aload_n (q := 12) (gDec iX5_copyFrom_ok 5 rfl) rfl rfl rfl ?_
  refine go_getr (r' := o + 4) (q := 15) fX5_20 (gDec iX5_copyFrom_ok 6 rfl) (gFd_D hD (by decide) rfl) (by omega) rfl ?_
  refine go_aload_n (q := 16) (gDec iX5_copyFrom_ok 7 rfl) rfl rfl rfl ?_
  refine go_getr (r' := o2 + 4) (q := 19) fX5_20 (gDec iX5_copyFrom_ok 8 rfl) (gFd_D hD2 (by decide) rfl) (by omega) rfl ?_
  refine go_callV (n2 := 0) (q := 22) kX5_36 (ctX7_copyFrom (r := o + 4) (r2 := o2 + 4) (a := o + 5) (a2 := o2 + 5) (len := 24) (gFd_D hD (by decide) rfl) (hD 5 (by decide)) (by omega) (by omega) (gFd_D hD2 (by decide) rfl) (hD2 5 (by decide)) (by omega) (by omega) (by decide)) (gDec iX5_copyFrom_ok 9 rfl) rfl (hD _ (by decide)) (by omega) rfl rfl rfl (Nat.le_of_ble_eq_true rfl) rfl (gFit_rm (by decide) (by decide)) rfl ?_
  refine go_w (gDc_rowA 5 24 hd (by decide)) ?_
  refine go_aload_n (q := 23) (gDec iX5_copyFrom_ok 10 rfl) rfl rfl rfl ?_
  refine go_getr (r' := o + 6) (q := 26) fX5_23 (gDec iX5_copyFrom_ok 11 rfl) (gFd_D hD (by decide) rfl) (by omega) rfl ?_
  refine go_aload_n (q := 27) (gDec iX5_copyFrom_ok 12 rfl) rfl rfl rfl ?_
  refine go_getr (r' := o2 + 6) (q := 30) fX5_23 (gDec iX5_copyFrom_ok 13 rfl) (gFd_D hD2 (by decide) rfl) (by omega) rfl ?_
  refine go_callV (n2 := 0) (q := 33) kX5_36 (ctX7_copyFrom (r := o + 6) (r2 := o2 + 6) (a := o + 7) (a2 := o2 + 7) (len := 72) (gFd_D hD (by decide) rfl) (hD 7 (by decide)) (by omega) (by omega) (gFd_D hD2 (by decide) rfl) (hD2 7 (by decide)) (by omega) (by omega) (by decide)) (gDec iX5_copyFrom_ok 14 rfl) rfl (hD _ (by decide)) (by omega) rfl rfl rfl (Nat.le_of_ble_eq_true rfl) rfl (gFit_rm (by decide) (by decide)) rfl ?_
  refine go_w (gDc_rowA 7 72 hd (by decide)) ?_
  refine go_aload_n (q := 34) (gDec iX5_copyFrom_ok 15 rfl) rfl rfl rfl ?_
  refine go_getr (r' := o + 8) (q := 37) fX5_26 (gDec iX5_copyFrom_ok 16 rfl) (gFd_D hD (by decide) rfl) (by omega) rfl ?_
  refine go_aload_n (q := 38) (gDec iX5_copyFrom_ok 17 rfl) rfl rfl rfl ?_
  refine go_getr (r' := o2 + 8) (q := 41) fX5_26 (gDec iX5_copyFrom_ok 18 rfl) (gFd_D hD2 (by decide) rfl) (by omega) rfl ?_
  refine go_callV (n2 := 0) (q := 44) kX5_36 (ctX7_copyFrom (r := o + 8) (r2 := o2 + 8) (a := o + 9) (a2 := o2 + 9) (len := 864) (gFd_D hD (by decide) rfl) (hD 9 (by decide)) (by omega) (by omega) (gFd_D hD2 (by decide) rfl) (hD2 9 (by decide)) (by omega) (by omega) (by decide)) (gDec iX5_copyFrom_ok 19 rfl) rfl (hD _ (by decide)) (by omega) rfl rfl rfl (Nat.le_of_ble_eq_true rfl) rfl (gFit_rm (by decide) (by decide)) rfl ?_
  refine go_w (gDc_rowA 9 864 hd (by decide)) ?_
  refine go_aload_n (q := 45) (gDec iX5_copyFrom_ok 20 rfl) rfl rfl rfl ?_
  refine go_getr (r' := o + 10) (q := 48) fX5_29 (gDec iX5_copyFrom_ok 21 rfl) (gFd_D hD (by decide) rfl) (by omega) rfl ?_
  refine go_aload_n (q := 49) (gDec iX5_copyFrom_ok 22 rfl) rfl rfl rfl ?_
  refine go_getr (r' := o2 + 10) (q := 52) fX5_29 (gDec iX5_copyFrom_ok 23 rfl) (gFd_D hD2 (by decide) rfl) (by omega) rfl ?_
  refine go_callV (n2 := 0) (q := 55) kX5_36 (ctX7_copyFrom (r := o + 10) (r2 := o2 + 10) (a := o + 11) (a2 := o2 + 11) (len := 864) (gFd_D hD (by decide) rfl) (hD 11 (by decide)) (by omega) (by omega) (gFd_D hD2 (by decide) rfl) (hD2 11 (by decide)) (by omega) (by omega) (by decide)) (gDec iX5_copyFrom_ok 24 rfl) rfl (hD _ (by decide)) (by omega) rfl rfl rfl (Nat.le_of_ble_eq_true rfl) rfl (gFit_rm (by decide) (by decide)) rfl ?_
  refine go_w (gDc_rowA 11 864 hd (by decide)) ?_
  refine go_aload_n (q := 56) (gDec iX5_copyFrom_ok 25 rfl) rfl rfl rfl ?_
  refine go_aload_n (q := 57) (gDec iX5_copyFrom_ok 26 rfl) rfl rfl rfl ?_
  refine go_geti (q := 60) fX5_32 (gDec iX5_copyFrom_ok 27 rfl) (gFd_D hD2 (by decide) rfl) (by omega) rfl ?_
  refine go_puti (q := 63) fX5_32 gft5 (gDec iX5_copyFrom_ok 28 rfl) (gFd_D hD (by decide) rfl) (by omega) rfl rfl rfl rfl ?_
  refine go_w (gDc_fldA 1 5 hd (by decide)) ?_
  exact go_return (gDec iX5_copyFrom_ok 29 rfl) rfl rfl rfl (by decide)

abbrev gLX0_copyFrom : gCpL := [(14, true, 48), (16, true, 48), (18, true, 48)]
set_option maxHeartbeats 4000000 in
set_option maxRecDepth 100000 in
theorem ctX0_copyFrom {κ : gK} {σ : gST} {o o2 : Nat} (hD : gIsD o) (hD2 : gIsD o2) (ho : o + 35 ≤ gN) (ho2 : o2 + 35 ≤ gN) (hd : o + 35 ≤ o2 ∨ o2 + 35 ≤ o) : gCt κ mX0_copyFrom 2 [.ref (κ.2.1 + (o + 12)), .ref (κ.2.1 + (o2 + 12))] σ (.inl none) (gDc gLX0_copyFrom σ o o2) 0 := by
  refine ct_of (by decide +kernel) rfl (Nat.le_of_ble_eq_true rfl) rfl ?_
  refine go_w (gDc_nil σ o o2) ?_
  refine go_aload_n (q := 1) (gDec iX0_copyFrom_ok 0 rfl) rfl rfl rfl ?_
  refine go_getr (r' := o + 13) (q := 4) fX0_14 (gDec iX0_copyFrom_ok 1 rfl) (gFd_D hD (by decide) rfl) (by omega) rfl ?_
  refine go_aload_n (q := 5) (gDec iX0_copyFrom_ok 2 rfl) rfl rfl rfl ?_
  refine go_getr (r' := o2 + 13) (q := 8) fX0_14 (gDec iX0_copyFrom_ok 3 rfl) (gFd_D hD2 (by decide) rfl) (by omega) rfl ?_
  refine go_callV (n2 := 0) (q := 11) kX0_26 (ctX7_copyFrom (r := o + 13) (r2 := o2 + 13) (a := o + 14) (a2 := o2 + 14) (len := 48) (gFd_D hD (by decide) rfl) (hD 14 (by decide)) (by omega) (by omega) (gFd_D hD2 (by decide) rfl) (hD2 14 (by decide)) (by omega) (by omega) (by decide)) (gDec iX0_copyFrom_ok 4 rfl) rfl (hD _ (by decide)) (by omega) rfl rfl rfl (Nat.le_of_ble_eq_true rfl) rfl (gFit_rm (by decide) (by decide)) rfl ?_
  refine go_w (gDc_rowA 14 48 hd (by decide)) ?_
  refine go_aload_n (q := 12) (gDec iX0_copyFrom_ok 5 rfl) rfl rfl rfl ?_
  refine go_getr (r' := o + 15) (q := 15) fX0_20 (gDec iX0_copyFrom_ok 6 rfl) (gFd_D hD (by decide) rfl) (by omega) rfl ?_
  refine go_aload_n (q := 16) (gDec iX0_copyFrom_ok 7 rfl) rfl rfl rfl ?_
  refine go_getr (r' := o2 + 15) (q := 19) fX0_20 (gDec iX0_copyFrom_ok 8 rfl) (gFd_D hD2 (by decide) rfl) (by omega) rfl ?_
  refine go_callV (n2 := 0) (q := 22) kX0_26 (ctX7_copyFrom (r := o + 15) (r2 := o2 + 15) (a := o + 16) (a2 := o2 + 16) (len := 48) (gFd_D hD (by decide) rfl) (hD 16 (by decide)) (by omega) (by omega) (gFd_D hD2 (by decide) rfl) (hD2 16 (by decide)) (by omega) (by omega) (by decide)) (gDec iX0_copyFrom_ok 9 rfl) rfl (hD _ (by decide)) (by omega) rfl rfl rfl (Nat.le_of_ble_eq_true rfl) rfl (gFit_rm (by decide) (by decide)) rfl ?_
  refine go_w (gDc_rowA 16 48 hd (by decide)) ?_
  refine go_aload_n (q := 23) (gDec iX0_copyFrom_ok 10 rfl) rfl rfl rfl ?_
  refine go_getr (r' := o + 17) (q := 26) fX0_23 (gDec iX0_copyFrom_ok 11 rfl) (gFd_D hD (by decide) rfl) (by omega) rfl ?_
  refine go_aload_n (q := 27) (gDec iX0_copyFrom_ok 12 rfl) rfl rfl rfl ?_
  refine go_getr (r' := o2 + 17) (q := 30) fX0_23 (gDec iX0_copyFrom_ok 13 rfl) (gFd_D hD2 (by decide) rfl) (by omega) rfl ?_
  refine go_callV (n2 := 0) (q := 33) kX0_26 (ctX7_copyFrom (r := o + 17) (r2 := o2 + 17) (a := o + 18) (a2 := o2 + 18) (len := 48) (gFd_D hD (by decide) rfl) (hD 18 (by decide)) (by omega) (by omega) (gFd_D hD2 (by decide) rfl) (hD2 18 (by decide)) (by omega) (by omega) (by decide)) (gDec iX0_copyFrom_ok 14 rfl) rfl (hD _ (by decide)) (by omega) rfl rfl rfl (Nat.le_of_ble_eq_true rfl) rfl (gFit_rm (by decide) (by decide)) rfl ?_
  refine go_w (gDc_rowA 18 48 hd (by decide)) ?_
  exact go_return (gDec iX0_copyFrom_ok 15 rfl) rfl rfl rfl (by decide)

abbrev gLX4_copyFrom : gCpL := [(21, true, 24), (23, true, 24), (25, true, 36), (27, true, 576), (19, false, 4), (19, false, 5)]
set_option maxHeartbeats 4000000 in
set_option maxRecDepth 100000 in
theorem ctX4_copyFrom {κ : gK} {σ : gST} {o o2 : Nat} (hD : gIsD o) (hD2 : gIsD o2) (ho : o + 35 ≤ gN) (ho2 : o2 + 35 ≤ gN) (hd : o + 35 ≤ o2 ∨ o2 + 35 ≤ o) : gCt κ mX4_copyFrom 2 [.ref (κ.2.1 + (o + 19)), .ref (κ.2.1 + (o2 + 19))] σ (.inl none) (gDc gLX4_copyFrom σ o o2) 0 := by
  refine ct_of (by decide +kernel) rfl (Nat.le_of_ble_eq_true rfl) rfl ?_
  refine go_w (gDc_nil σ o o2) ?_
  refine go_aload_n (q := 1) (gDec iX4_copyFrom_ok 0 rfl) rfl rfl rfl ?_
  refine go_getr (r' := o + 20) (q := 4) fX4_14 (gDec iX4_copyFrom_ok 1 rfl) (gFd_D hD (by decide) rfl) (by omega) rfl ?_
  refine go_aload_n (q := 5) (gDec iX4_copyFrom_ok 2 rfl) rfl rfl rfl ?_
  refine go_getr (r' := o2 + 20) (q := 8) fX4_14 (gDec iX4_copyFrom_ok 3 rfl) (gFd_D hD2 (by decide) rfl) (by omega) rfl ?_
  refine go_callV (n2 := 0) (q := 11) kX4_36 (ctX7_copyFrom (r := o + 20) (r2 := o2 + 20) (a := o + 21) (a2 := o2 + 21) (len := 24) (gFd_D hD (by decide) rfl) (hD 21 (by decide)) (by omega) (by omega) (gFd_D hD2 (by decide) rfl) (hD2 21 (by decide)) (by omega) (by omega) (by decide)) (gDec iX4_copyFrom_ok 4 rfl) rfl (hD _ (by decide)) (by omega) rfl rfl rfl (Nat.le_of_ble_eq_true rfl) rfl (gFit_rm (by decide) (by decide)) rfl ?_
  refine go_w (gDc_rowA 21 24 hd (by decide)) ?_
  refine go_aload_n (q := 12) (gDec iX4_copyFrom_ok 5 rfl) rfl rfl rfl ?_
  refine go_getr (r' := o + 22) (q := 15) fX4_20 (gDec iX4_copyFrom_ok 6 rfl) (gFd_D hD (by decide) rfl) (by omega) rfl ?_
  refine go_aload_n (q := 16) (gDec iX4_copyFrom_ok 7 rfl) rfl rfl rfl ?_
  refine go_getr (r' := o2 + 22) (q := 19) fX4_20 (gDec iX4_copyFrom_ok 8 rfl) (gFd_D hD2 (by decide) rfl) (by omega) rfl ?_
  refine go_callV (n2 := 0) (q := 22) kX4_36 (ctX7_copyFrom (r := o + 22) (r2 := o2 + 22) (a := o + 23) (a2 := o2 + 23) (len := 24) (gFd_D hD (by decide) rfl) (hD 23 (by decide)) (by omega) (by omega) (gFd_D hD2 (by decide) rfl) (hD2 23 (by decide)) (by omega) (by omega) (by decide)) (gDec iX4_copyFrom_ok 9 rfl) rfl (hD _ (by decide)) (by omega) rfl rfl rfl (Nat.le_of_ble_eq_true rfl) rfl (gFit_rm (by decide) (by decide)) rfl ?_
  refine go_w (gDc_rowA 23 24 hd (by decide)) ?_
  refine go_aload_n (q := 23) (gDec iX4_copyFrom_ok 10 rfl) rfl rfl rfl ?_
  refine go_getr (r' := o + 24) (q := 26) fX4_23 (gDec iX4_copyFrom_ok 11 rfl) (gFd_D hD (by decide) rfl) (by omega) rfl ?_
  refine go_aload_n (q := 27) (gDec iX4_copyFrom_ok 12 rfl) rfl rfl rfl ?_
  refine go_getr (r' := o2 + 24) (q := 30) fX4_23 (gDec iX4_copyFrom_ok 13 rfl) (gFd_D hD2 (by decide) rfl) (by omega) rfl ?_
  refine go_callV (n2 := 0) (q := 33) kX4_36 (ctX7_copyFrom (r := o + 24) (r2 := o2 + 24) (a := o + 25) (a2 := o2 + 25) (len := 36) (gFd_D hD (by decide) rfl) (hD 25 (by decide)) (by omega) (by omega) (gFd_D hD2 (by decide) rfl) (hD2 25 (by decide)) (by omega) (by omega) (by decide)) (gDec iX4_copyFrom_ok 14 rfl) rfl (hD _ (by decide)) (by omega) rfl rfl rfl (Nat.le_of_ble_eq_true rfl) rfl (gFit_rm (by decide) (by decide)) rfl ?_
  refine go_w (gDc_rowA 25 36 hd (by decide)) ?_
  refine go_aload_n (q := 34) (gDec iX4_copyFrom_ok 15 rfl) rfl rfl rfl ?_
  refine go_getr (r' := o + 26) (q := 37) fX4_26 (gDec iX4_copyFrom_ok 16 rfl) (gFd_D hD (by decide) rfl) (by omega) rfl ?_
  refine go_aload_n (q := 38) (gDec iX4_copyFrom_ok 17 rfl) rfl rfl rfl ?_
  refine go_getr (r' := o2 + 26) (q := 41) fX4_26 (gDec iX4_copyFrom_ok 18 rfl) (gFd_D hD2 (by decide) rfl) (by omega) rfl ?_
  refine go_callV (n2 := 0) (q := 44) kX4_36 (ctX7_copyFrom (r := o + 26) (r2 := o2 + 26) (a := o + 27) (a2 := o2 + 27) (len := 576) (gFd_D hD (by decide) rfl) (hD 27 (by decide)) (by omega) (by omega) (gFd_D hD2 (by decide) rfl) (hD2 27 (by decide)) (by omega) (by omega) (by decide)) (gDec iX4_copyFrom_ok 19 rfl) rfl (hD _ (by decide)) (by omega) rfl rfl rfl (Nat.le_of_ble_eq_true rfl) rfl (gFit_rm (by decide) (by decide)) rfl ?_
  refine go_w (gDc_rowA 27 576 hd (by decide)) ?_
  refine go_aload_n (q := 45) (gDec iX4_copyFrom_ok 20 rfl) rfl rfl rfl ?_
  refine go_aload_n (q := 46) (gDec iX4_copyFrom_ok 21 rfl) rfl rfl rfl ?_
  refine go_geti (q := 49) fX4_29 (gDec iX4_copyFrom_ok 22 rfl) (gFd_D hD2 (by decide) rfl) (by omega) rfl ?_
  refine go_puti (q := 52) fX4_29 gft4 (gDec iX4_copyFrom_ok 23 rfl) (gFd_D hD (by decide) rfl) (by omega) rfl rfl rfl rfl ?_
  refine go_w (gDc_fldA 19 4 hd (by decide)) ?_
  refine go_aload_n (q := 53) (gDec iX4_copyFrom_ok 24 rfl) rfl rfl rfl ?_
  refine go_aload_n (q := 54) (gDec iX4_copyFrom_ok 25 rfl) rfl rfl rfl ?_
  refine go_geti (q := 57) fX4_33 (gDec iX4_copyFrom_ok 26 rfl) (gFd_D hD2 (by decide) rfl) (by omega) rfl ?_
  refine go_puti (q := 60) fX4_33 gft4 (gDec iX4_copyFrom_ok 27 rfl) (gFd_D hD (by decide) rfl) (by omega) rfl rfl rfl rfl ?_
  refine go_w (gDc_fldA 19 5 hd (by decide)) ?_
  exact go_return (gDec iX4_copyFrom_ok 28 rfl) rfl rfl rfl (by decide)

abbrev gLX8_copyFrom : gCpL := [(30, true, 24), (32, true, 96), (34, true, 96)]
set_option maxHeartbeats 4000000 in
set_option maxRecDepth 100000 in
theorem ctX8_copyFrom {κ : gK} {σ : gST} {o o2 : Nat} (hD : gIsD o) (hD2 : gIsD o2) (ho : o + 35 ≤ gN) (ho2 : o2 + 35 ≤ gN) (hd : o + 35 ≤ o2 ∨ o2 + 35 ≤ o) : gCt κ mX8_copyFrom 2 [.ref (κ.2.1 + (o + 28)), .ref (κ.2.1 + (o2 + 28))] σ (.inl none) (gDc gLX8_copyFrom σ o o2) 0 := by
  refine ct_of (by decide +kernel) rfl (Nat.le_of_ble_eq_true rfl) rfl ?_
  refine go_w (gDc_nil σ o o2) ?_
  refine go_aload_n (q := 1) (gDec iX8_copyFrom_ok 0 rfl) rfl rfl rfl ?_
  refine go_getr (r' := o + 29) (q := 4) fX8_14 (gDec iX8_copyFrom_ok 1 rfl) (gFd_D hD (by decide) rfl) (by omega) rfl ?_
  refine go_aload_n (q := 5) (gDec iX8_copyFrom_ok 2 rfl) rfl rfl rfl ?_
  refine go_getr (r' := o2 + 29) (q := 8) fX8_14 (gDec iX8_copyFrom_ok 3 rfl) (gFd_D hD2 (by decide) rfl) (by omega) rfl ?_
  refine go_callV (n2 := 0) (q := 11) kX8_26 (ctX7_copyFrom (r := o + 29) (r2 := o2 + 29) (a := o + 30) (a2 := o2 + 30) (len := 24) (gFd_D hD (by decide) rfl) (hD 30 (by decide)) (by omega) (by omega) (gFd_D hD2 (by decide) rfl) (hD2 30 (by decide)) (by omega) (by omega) (by decide)) (gDec iX8_copyFrom_ok 4 rfl) rfl (hD _ (by decide)) (by omega) rfl rfl rfl (Nat.le_of_ble_eq_true rfl) rfl (gFit_rm (by decide) (by decide)) rfl ?_
  refine go_w (gDc_rowA 30 24 hd (by decide)) ?_
  refine go_aload_n (q := 12) (gDec iX8_copyFrom_ok 5 rfl) rfl rfl rfl ?_
  refine go_getr (r' := o + 31) (q := 15) fX8_20 (gDec iX8_copyFrom_ok 6 rfl) (gFd_D hD (by decide) rfl) (by omega) rfl ?_
  refine go_aload_n (q := 16) (gDec iX8_copyFrom_ok 7 rfl) rfl rfl rfl ?_
  refine go_getr (r' := o2 + 31) (q := 19) fX8_20 (gDec iX8_copyFrom_ok 8 rfl) (gFd_D hD2 (by decide) rfl) (by omega) rfl ?_
  refine go_callV (n2 := 0) (q := 22) kX8_26 (ctX7_copyFrom (r := o + 31) (r2 := o2 + 31) (a := o + 32) (a2 := o2 + 32) (len := 96) (gFd_D hD (by decide) rfl) (hD 32 (by decide)) (by omega) (by omega) (gFd_D hD2 (by decide) rfl) (hD2 32 (by decide)) (by omega) (by omega) (by decide)) (gDec iX8_copyFrom_ok 9 rfl) rfl (hD _ (by decide)) (by omega) rfl rfl rfl (Nat.le_of_ble_eq_true rfl) rfl (gFit_rm (by decide) (by decide)) rfl ?_
  refine go_w (gDc_rowA 32 96 hd (by decide)) ?_
  refine go_aload_n (q := 23) (gDec iX8_copyFrom_ok 10 rfl) rfl rfl rfl ?_
  refine go_getr (r' := o + 33) (q := 26) fX8_23 (gDec iX8_copyFrom_ok 11 rfl) (gFd_D hD (by decide) rfl) (by omega) rfl ?_
  refine go_aload_n (q := 27) (gDec iX8_copyFrom_ok 12 rfl) rfl rfl rfl ?_
  refine go_getr (r' := o2 + 33) (q := 30) fX8_23 (gDec iX8_copyFrom_ok 13 rfl) (gFd_D hD2 (by decide) rfl) (by omega) rfl ?_
  refine go_callV (n2 := 0) (q := 33) kX8_26 (ctX7_copyFrom (r := o + 33) (r2 := o2 + 33) (a := o + 34) (a2 := o2 + 34) (len := 96) (gFd_D hD (by decide) rfl) (hD 34 (by decide)) (by omega) (by omega) (gFd_D hD2 (by decide) rfl) (hD2 34 (by decide)) (by omega) (by omega) (by decide)) (gDec iX8_copyFrom_ok 14 rfl) rfl (hD _ (by decide)) (by omega) rfl rfl rfl (Nat.le_of_ble_eq_true rfl) rfl (gFit_rm (by decide) (by decide)) rfl ?_
  refine go_w (gDc_rowA 34 96 hd (by decide)) ?_
  exact go_return (gDec iX8_copyFrom_ok 15 rfl) rfl rfl rfl (by decide)

abbrev gLX1_copyFrom : gCpL := gLX5_copyFrom ++ gLX0_copyFrom ++ gLX4_copyFrom ++ gLX8_copyFrom ++ [(0, false, 4)] ++ [(0, false, 5)]
set_option maxHeartbeats 4000000 in
set_option maxRecDepth 100000 in
theorem ctX1_copyFrom {κ : gK} {σ : gST} {o o2 : Nat} (hD : gIsD o) (hD2 : gIsD o2) (ho : o + 35 ≤ gN) (ho2 : o2 + 35 ≤ gN) (hd : o + 35 ≤ o2 ∨ o2 + 35 ≤ o) : gCt κ mX1_copyFrom 3 [.ref (κ.2.1 + o), .ref (κ.2.1 + o2)] σ (.inl none) (gDc gLX1_copyFrom σ o o2) 0 := by
  refine ct_of (by decide +kernel) rfl (Nat.le_of_ble_eq_true rfl) rfl ?_
  refine go_aload_n (q := 1) (gDec iX1_copyFrom_ok 0 rfl) rfl rfl rfl ?_
  refine go_getr (r' := o + 1) (q := 4) fX1_12 (gDec iX1_copyFrom_ok 1 rfl) (gFd_D (j := 0) hD (by decide) rfl) (by omega) rfl ?_
  refine go_aload_n (q := 5) (gDec iX1_copyFrom_ok 2 rfl) rfl rfl rfl ?_
  refine go_getr (r' := o2 + 1) (q := 8) fX1_12 (gDec iX1_copyFrom_ok 3 rfl) (gFd_D (j := 0) hD2 (by decide) rfl) (by omega) rfl ?_
  refine go_callV (n2 := 0) (q := 11) kX1_46 (ctX5_copyFrom (o := o) (o2 := o2) hD hD2 ho ho2 hd) (gDec iX1_copyFrom_ok 4 rfl) rfl (hD _ (by decide)) (by omega) rfl rfl rfl (Nat.le_of_ble_eq_true rfl) rfl (gFit_rm (by decide) (by decide)) rfl ?_
  refine go_aload_n (q := 12) (gDec iX1_copyFrom_ok 5 rfl) rfl rfl rfl ?_
  refine go_getr (r' := o + 12) (q := 15) fX1_21 (gDec iX1_copyFrom_ok 6 rfl) (gFd_D (j := 0) hD (by decide) rfl) (by omega) rfl ?_
  refine go_aload_n (q := 16) (gDec iX1_copyFrom_ok 7 rfl) rfl rfl rfl ?_
  refine go_getr (r' := o2 + 12) (q := 19) fX1_21 (gDec iX1_copyFrom_ok 8 rfl) (gFd_D (j := 0) hD2 (by decide) rfl) (by omega) rfl ?_
  refine go_callV (n2 := 0) (q := 22) kX1_50 (ctX0_copyFrom (o := o) (o2 := o2) hD hD2 ho ho2 hd) (gDec iX1_copyFrom_ok 9 rfl) rfl (hD _ (by decide)) (by omega) rfl rfl rfl (Nat.le_of_ble_eq_true rfl) rfl (gFit_rm (by decide) (by decide)) rfl ?_
  refine go_w (gDc_app hd) ?_
  refine go_aload_n (q := 23) (gDec iX1_copyFrom_ok 10 rfl) rfl rfl rfl ?_
  refine go_getr (r' := o + 19) (q := 26) fX1_28 (gDec iX1_copyFrom_ok 11 rfl) (gFd_D (j := 0) hD (by decide) rfl) (by omega) rfl ?_
  refine go_aload_n (q := 27) (gDec iX1_copyFrom_ok 12 rfl) rfl rfl rfl ?_
  refine go_getr (r' := o2 + 19) (q := 30) fX1_28 (gDec iX1_copyFrom_ok 13 rfl) (gFd_D (j := 0) hD2 (by decide) rfl) (by omega) rfl ?_
  refine go_callV (n2 := 0) (q := 33) kX1_53 (ctX4_copyFrom (o := o) (o2 := o2) hD hD2 ho ho2 hd) (gDec iX1_copyFrom_ok 14 rfl) rfl (hD _ (by decide)) (by omega) rfl rfl rfl (Nat.le_of_ble_eq_true rfl) rfl (gFit_rm (by decide) (by decide)) rfl ?_
  refine go_w (gDc_app hd) ?_
  refine go_aload_n (q := 34) (gDec iX1_copyFrom_ok 15 rfl) rfl rfl rfl ?_
  refine go_getr (r' := o + 28) (q := 37) fX1_35 (gDec iX1_copyFrom_ok 16 rfl) (gFd_D (j := 0) hD (by decide) rfl) (by omega) rfl ?_
  refine go_aload_n (q := 38) (gDec iX1_copyFrom_ok 17 rfl) rfl rfl rfl ?_
  refine go_getr (r' := o2 + 28) (q := 41) fX1_35 (gDec iX1_copyFrom_ok 18 rfl) (gFd_D (j := 0) hD2 (by decide) rfl) (by omega) rfl ?_
  refine go_callV (n2 := 0) (q := 44) kX1_56 (ctX8_copyFrom (o := o) (o2 := o2) hD hD2 ho ho2 hd) (gDec iX1_copyFrom_ok 19 rfl) rfl (hD _ (by decide)) (by omega) rfl rfl rfl (Nat.le_of_ble_eq_true rfl) rfl (gFit_rm (by decide) (by decide)) rfl ?_
  refine go_w (gDc_app hd) ?_
  refine go_aload_n (q := 45) (gDec iX1_copyFrom_ok 20 rfl) rfl rfl rfl ?_
  refine go_aload_n (q := 46) (gDec iX1_copyFrom_ok 21 rfl) rfl rfl rfl ?_
  refine go_geti (q := 49) fX1_39 (gDec iX1_copyFrom_ok 22 rfl) (gFd_D (j := 0) hD2 (by decide) rfl) (by omega) rfl ?_
  refine go_puti (q := 52) fX1_39 gft1 (gDec iX1_copyFrom_ok 23 rfl) (gFd_D (j := 0) hD (by decide) rfl) (by omega) rfl rfl rfl rfl ?_
  refine go_w (gDc_fldA 0 4 hd (by decide)) ?_
  refine go_aload_n (q := 53) (gDec iX1_copyFrom_ok 24 rfl) rfl rfl rfl ?_
  refine go_aload_n (q := 54) (gDec iX1_copyFrom_ok 25 rfl) rfl rfl rfl ?_
  refine go_geti (q := 57) fX1_43 (gDec iX1_copyFrom_ok 26 rfl) (gFd_D (j := 0) hD2 (by decide) rfl) (by omega) rfl ?_
  refine go_puti (q := 60) fX1_43 gft1 (gDec iX1_copyFrom_ok 27 rfl) (gFd_D (j := 0) hD (by decide) rfl) (by omega) rfl rfl rfl rfl ?_
  refine go_w (gDc_fldA 0 5 hd (by decide)) ?_
  exact go_return (gDec iX1_copyFrom_ok 28 rfl) rfl rfl rfl (by decide)
