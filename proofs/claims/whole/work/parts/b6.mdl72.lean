theorem gB_arr (cA : ClassId) (n : Nat) : vp_cell cA (n, .inl (fun _ => 0)) = arrV cA n (fun _ => .int 0) := by rw [vp_cell_i]
theorem gB_at {pre l : List va_E} {o : Nat} (ho : pre.length = o) (k : Nat) : (pre ++ l)[o + k]? = l[k]? := by
  subst ho
  rw [List.getElem?_append_right (Nat.le_add_right _ _), Nat.add_sub_cancel_left]
theorem gB_at0 {pre t : List va_E} {a : va_E} {o : Nat} (ho : pre.length = o) : (pre ++ a :: t)[o]? = some a := gB_at (l := a :: t) ho 0
theorem gB_set {pre l : List va_E} {o : Nat} (ho : pre.length = o) (k : Nat) (e : va_E) : (pre ++ l).set (o + k) e = pre ++ l.set k e := by
  subst ho
  rw [List.set_append_right _ _ (Nat.le_add_right _ _), Nat.add_sub_cancel_left]
theorem gB_set0 {pre t : List va_E} {a e : va_E} {o : Nat} (ho : pre.length = o) : (pre ++ a :: t).set o e = pre ++ e :: t := gB_set (l := a :: t) ho 0 e
theorem gB_len {pre l : List va_E} {o k : Nat} (ho : pre.length = o) (hl : l.length = k) : (pre ++ l).length = o + k := by rw [List.length_append, ho, hl]
/-- a row of n ints, each v at first -/
def blkX7 (κ : gK) (o n : Nat) (v : Int32) : List va_E := [.inr (7, [.ref (κ.2.1 + (o + 1))]), .inl (κ.2.2.2.1 0, n, .inl (fun j => if j < n then v else 0))]

def iX7_init : List (Nat × Instr × Nat) := [(0, .aload_n 0, 1), (1, .invokespecial 1, 3), (4, .aload_n 0, 1), (5, .iload_n 1, 1), (6, .ifCond .le 7, 3), (9, .iload_n 1, 1), (10, .goto 4, 3), (13, .iconst 0, 1), (14, .newarray .int, 2), (16, .putfield 7, 3), (19, .iconst 0, 1), (20, .istore_n 3, 1), (21, .iload_n 3, 1), (22, .aload_n 0, 1), (23, .getfield 7, 3), (26, .arraylength, 1), (27, .if_icmp .ge 16, 3), (30, .aload_n 0, 1), (31, .getfield 7, 3), (34, .iload_n 3, 1), (35, .iload_n 2, 1), (36, .iastore, 1), (37, .iinc 3 1, 3), (40, .goto (-19), 3), (43, .return_, 1)]
theorem iX7_init_ok : gDecs mX7_init iX7_init := by decide +kernel

set_option maxHeartbeats 4000000 in
set_option maxRecDepth 100000 in
theorem lpX7_init {κ : gK} {pre : List va_E} {o n : Nat} {v : Int32} {cs sl : Nat} (ho : pre.length = o) (hn : n < 1000) : ∀ (m i : Nat), i + m = n → Gb κ mX7_init (gRb 1 1 n) (gZb κ (pre ++ blkX7 κ o n v) cs sl) 21 [(0, .ref (κ.2.1 + o)), (1, .int (nI n)), (2, .int v), (3, .int (nI i))] [] (pre ++ [.inr (7, [.ref (κ.2.1 + (o + 1))]), .inl (κ.2.2.2.1 0, n, .inl (fun j => if j < i then v else 0))]) cs sl := by
  intro m
  induction m with
  | zero =>
    intro i hi
    have hi : i = n := hi
    subst hi
    refine gb_iload_n (q := 22) (gDec iX7_init_ok 12 rfl) rfl rfl rfl ?_
    refine gb_aload_n (q := 23) (gDec iX7_init_ok 13 rfl) rfl rfl rfl ?_
    refine gb_get (q := 26) (v := .ref (κ.2.1 + (o + 1))) fX7_7 (gDec iX7_init_ok 14 rfl) (gB_at0 ho) rfl rfl ?_
    refine gb_alen (q := 27) (v := nI i) (t0 := 0) (gDec iX7_init_ok 15 rfl) (gB_at ho 1) rfl rfl rfl ?_
    refine gb_icmp_ge (t := 43) (q := 30) (gDec iX7_init_ok 16 rfl) (by decide) rfl (fun c => ?_) (fun c => False.elim (c (Int32.le_refl _)))
    exact gb_ret (gDec iX7_init_ok 24 rfl) rfl rfl
  | succ m ih =>
    intro i hi
    refine gb_iload_n (q := 22) (gDec iX7_init_ok 12 rfl) rfl rfl rfl ?_
    refine gb_aload_n (q := 23) (gDec iX7_init_ok 13 rfl) rfl rfl rfl ?_
    refine gb_get (q := 26) (v := .ref (κ.2.1 + (o + 1))) fX7_7 (gDec iX7_init_ok 14 rfl) (gB_at0 ho) rfl rfl ?_
    refine gb_alen (q := 27) (v := nI n) (t0 := 0) (gDec iX7_init_ok 15 rfl) (gB_at ho 1) rfl rfl rfl ?_
    refine gb_icmp_ge (t := 43) (q := 30) (gDec iX7_init_ok 16 rfl) (by decide) rfl (fun c => False.elim (nI_ge (a := i) (b := n) (by omega) (by omega) c)) (fun c => ?_)
    refine gb_aload_n (q := 31) (gDec iX7_init_ok 17 rfl) rfl rfl rfl ?_
    refine gb_get (q := 34) (v := .ref (κ.2.1 + (o + 1))) fX7_7 (gDec iX7_init_ok 18 rfl) (gB_at0 ho) rfl rfl ?_
    refine gb_iload_n (q := 35) (gDec iX7_init_ok 19 rfl) rfl rfl rfl ?_
    refine gb_iload_n (q := 36) (gDec iX7_init_ok 20 rfl) rfl rfl rfl ?_
    refine gb_iast (q := 37) (t0 := 0) (gDec iX7_init_ok 21 rfl) (gB_at ho 1) rfl (vp_in_nI (by omega) (by omega)) rfl ?_
    refine gb_w (show _ = pre ++ [.inr (7, [.ref (κ.2.1 + (o + 1))]), .inl (κ.2.2.2.1 0, n, .inl (fun j => if j < (i + 1) then v else 0))] from (gB_set ho 1 _).trans (by
      rw [nI_clamp (by omega)]
      have : upd (fun j => if j < i then v else 0) i v = (fun j => if j < i + 1 then v else 0) := by
        funext j
        rw [uN]
        by_cases h1 : j = i
        · rw [if_pos h1, if_pos (by omega)]
        · rw [if_neg h1]
          by_cases h2 : j < i
          · rw [if_pos h2, if_pos (by omega)]
          · rw [if_neg h2, if_neg (by omega)]
      rw [this]
      rfl)) ?_
    refine gb_iinc (v := nI (i + 1)) (q := 40) (gDec iX7_init_ok 22 rfl) rfl (nI_1 _) (by decide) rfl ?_
    refine gb_goto (t := 21) (gDec iX7_init_ok 23 rfl) (by decide) ?_
    refine gb_sub (L' := [(0, .ref (κ.2.1 + o)), (1, .int (nI n)), (2, .int v), (3, .int (nI (i + 1)))]) ⟨rfl, rfl, rfl, rfl, trivial⟩ ?_
    exact ih (i + 1) (by omega)

theorem wObRX7_1 : gOI RX7 1 := ⟨⟨gI1 (List.mem_of_getElem? (i := 52) rfl), rfl⟩, ⟨gI1 (List.mem_of_getElem? (i := 33) rfl), rfl⟩, ⟨gI1 (List.mem_of_getElem? (i := 34) rfl), rfl⟩⟩
theorem wAr_int : gH (.arrayClass .int) := ⟨gI1 (List.mem_of_getElem? (i := 57) rfl), rfl⟩
theorem wFlRX7_7 : gH (.fieldLink RX7 7 RX7 "cells" "[I") := ⟨gI1 (List.mem_of_getElem? (i := 53) rfl), rfl⟩
set_option maxHeartbeats 4000000 in
set_option maxRecDepth 100000 in
theorem cb_X7 {κ : gK} {pre : List va_E} {o n : Nat} {v : Int32} (ho : pre.length = o) (hn : n < 1000) (h0 : 0 < n) : gCb κ mX7_init 1 [.ref (κ.2.1 + o), .int (nI n), .int v] (pre ++ [.inr (7, [.null])]) (pre ++ blkX7 κ o n v) 1 n := by
  refine cb_of (by decide +kernel) rfl (Nat.le_of_ble_eq_true rfl) rfl ?_
  refine gb_aload_n (q := 1) (gDec iX7_init_ok 0 rfl) rfl rfl rfl ?_
  refine gb_obj (q := 4) wObRX7_1 (gDec iX7_init_ok 1 rfl) rfl (Nat.le_refl _) (Nat.le_of_ble_eq_true rfl) rfl ?_
  refine gb_aload_n (q := 5) (gDec iX7_init_ok 2 rfl) rfl rfl rfl ?_
  refine gb_iload_n (q := 6) (gDec iX7_init_ok 3 rfl) rfl rfl rfl ?_
  refine gb_if_le (t := 13) (q := 9) (gDec iX7_init_ok 4 rfl) (by decide) rfl (fun c => False.elim (nI_ge (a := 0) (b := n) (by omega) (by omega) c)) (fun c => ?_)
  refine gb_iload_n (q := 10) (gDec iX7_init_ok 5 rfl) rfl rfl rfl ?_
  refine gb_goto (t := 14) (gDec iX7_init_ok 6 rfl) (by decide) ?_
  refine gb_newa (q := 16) (atype := .int) (o := o + 1) (t0 := 0) (n := n) (ty := .int) (cA := κ.2.2.2.1 0) (a0 := (n, .inl (fun j => if j < 0 then v else 0))) (gB_len ho rfl) wAr_int rfl rfl (fun C h => by cases h) (by
    rw [vp_cell_i]
    congr 1) (nI_pos (by omega)) (nI_clamp (by omega)) (by show n * 4 ≤ _; omega) (Nat.le_refl _) (by show 0 + n ≤ n; omega) (gDec iX7_init_ok 8 rfl) rfl ?_
  refine gb_w (List.append_assoc _ _ _) ?_
  refine gb_putF (q := 19) (k := 0) fX7_7 wFlRX7_7 gft7 (gDec iX7_init_ok 9 rfl) (gB_at0 ho) rfl rfl rfl rfl rfl (Nat.le_of_ble_eq_true rfl) rfl ?_
  refine gb_w (show _ = pre ++ [.inr (7, [.ref (κ.2.1 + (o + 1))]), .inl (κ.2.2.2.1 0, n, .inl (fun j => if j < 0 then v else 0))] from gB_set0 ho) ?_
  refine gb_iconst (v := nI 0) (q := 20) (gDec iX7_init_ok 10 rfl) (by decide) rfl ?_
  refine gb_istore_n (q := 21) (gDec iX7_init_ok 11 rfl) rfl (by decide) rfl ?_
  refine gb_sub (L' := [(0, .ref (κ.2.1 + o)), (1, .int (nI n)), (2, .int v), (3, .int (nI 0))]) ⟨rfl, rfl, rfl, rfl, trivial⟩ ?_
  rw [Nat.zero_add n]
  exact lpX7_init (cs := 1) (sl := n) ho hn n 0 (Nat.zero_add n)
theorem blkX7_len (κ : gK) (o n : Nat) (v : Int32) : (blkX7 κ o n v).length = 2 := rfl
def iX5_init : List (Nat × Instr × Nat) := [(0, .aload_n 0, 1), (1, .invokespecial 3, 3), (4, .aload_n 0, 1), (5, .new 9, 3), (8, .dup, 1), (9, .bipush 24, 2), (11, .iconst 0, 1), (12, .invokespecial 11, 3), (15, .putfield 14, 3), (18, .aload_n 0, 1), (19, .new 9, 3), (22, .dup, 1), (23, .bipush 24, 2), (25, .iconst 0, 1), (26, .invokespecial 11, 3), (29, .putfield 20, 3), (32, .aload_n 0, 1), (33, .new 9, 3), (36, .dup, 1), (37, .bipush 72, 2), (39, .iconst 0, 1), (40, .invokespecial 11, 3), (43, .putfield 23, 3), (46, .aload_n 0, 1), (47, .new 9, 3), (50, .dup, 1), (51, .sipush 864, 3), (54, .iconst 0, 1), (55, .invokespecial 11, 3), (58, .putfield 26, 3), (61, .aload_n 0, 1), (62, .new 9, 3), (65, .dup, 1), (66, .sipush 864, 3), (69, .iconst 0, 1), (70, .invokespecial 11, 3), (73, .putfield 29, 3), (76, .aload_n 0, 1), (77, .iconst 0, 1), (78, .putfield 32, 3), (81, .return_, 1)]
theorem iX5_init_ok : gDecs mX5_init iX5_init := by decide +kernel

theorem wObRX5_3 : gOI RX5 3 := ⟨⟨gI1 (List.mem_of_getElem? (i := 46) rfl), rfl⟩, ⟨gI1 (List.mem_of_getElem? (i := 33) rfl), rfl⟩, ⟨gI1 (List.mem_of_getElem? (i := 34) rfl), rfl⟩⟩
theorem wClRX5_9 : gH (.classLink RX5 9 RX7) := ⟨gI1 (List.mem_of_getElem? (i := 47) rfl), rfl⟩
theorem wInRX7 : gH (.instantiable RX7 1) := ⟨gI1 (List.mem_of_getElem? (i := 48) rfl), rfl⟩
theorem wIiRX7 : gH (.initialized RX7) := ⟨gI1 (List.mem_of_getElem? (i := 4) rfl), rfl⟩
theorem wDfX7 : ∀ j, j < 1 → defaultValue (tyX7 j) = vp_V [.null] j := by decide +kernel
theorem wIbX7 : gIB mX7_init 2 := ⟨rfl, ⟨gI1 (List.mem_of_getElem? (i := 50) rfl), rfl⟩, ⟨gI1 (List.mem_of_getElem? (i := 4) rfl), rfl⟩, ⟨gI1 (List.mem_of_getElem? (i := 51) rfl), rfl⟩, ⟨⟨by decide +kernel, by decide +kernel, by decide +kernel⟩, by decide⟩, rfl, rfl⟩
theorem wKiRX5_11 : gIL RX5 11 mX7_init 2 := ⟨⟨gI1 (List.mem_of_getElem? (i := 49) rfl), rfl⟩, wIbX7⟩
theorem wFlRX5_14 : gH (.fieldLink RX5 14 RX5 "codes" "LTypeDesigner$Row;") := ⟨gI1 (List.mem_of_getElem? (i := 58) rfl), rfl⟩
theorem wFlRX5_20 : gH (.fieldLink RX5 20 RX5 "contourCounts" "LTypeDesigner$Row;") := ⟨gI1 (List.mem_of_getElem? (i := 59) rfl), rfl⟩
theorem wFlRX5_23 : gH (.fieldLink RX5 23 RX5 "pointCounts" "LTypeDesigner$Row;") := ⟨gI1 (List.mem_of_getElem? (i := 60) rfl), rfl⟩
theorem wFlRX5_26 : gH (.fieldLink RX5 26 RX5 "xs" "LTypeDesigner$Row;") := ⟨gI1 (List.mem_of_getElem? (i := 61) rfl), rfl⟩
theorem wFlRX5_29 : gH (.fieldLink RX5 29 RX5 "ys" "LTypeDesigner$Row;") := ⟨gI1 (List.mem_of_getElem? (i := 62) rfl), rfl⟩
theorem wFlRX5_32 : gH (.fieldLink RX5 32 RX5 "glyphs" "I") := ⟨gI1 (List.mem_of_getElem? (i := 63) rfl), rfl⟩
def blkX5 (κ : gK) (o : Nat) : List va_E := .inr (5, [.ref (κ.2.1 + (o + 1)), .ref (κ.2.1 + (o + 3)), .ref (κ.2.1 + (o + 5)), .ref (κ.2.1 + (o + 7)), .ref (κ.2.1 + (o + 9)), .int 0]) :: ((((([] ++ blkX7 κ (o + 1) 24 0) ++ blkX7 κ (o + 3) 24 0) ++ blkX7 κ (o + 5) 72 0) ++ blkX7 κ (o + 7) 864 0) ++ blkX7 κ (o + 9) 864 0)
theorem blkX5_len (κ : gK) (o : Nat) : (blkX5 κ o).length = 11 := rfl
set_option maxHeartbeats 4000000 in
set_option maxRecDepth 100000 in
theorem cb_X5 {κ : gK} {pre : List va_E} {o : Nat} (ho : pre.length = o) : gCb κ mX5_init 2 [.ref (κ.2.1 + o)] (pre ++ [.inr (5, [.null, .null, .null, .null, .null, .int 0])]) (pre ++ blkX5 κ o) 10 1853 := by
  refine cb_of (by decide +kernel) rfl (Nat.le_of_ble_eq_true rfl) rfl ?_
  refine gb_aload_n (q := 1) (gDec iX5_init_ok 0 rfl) rfl rfl rfl ?_
  refine gb_obj (q := 4) wObRX5_3 (gDec iX5_init_ok 1 rfl) rfl (Nat.le_of_ble_eq_true rfl) (Nat.le_of_ble_eq_true rfl) rfl ?_
  refine gb_aload_n (q := 5) (gDec iX5_init_ok 2 rfl) rfl rfl rfl ?_
  refine gb_new (q := 8) (o := o + 1) (ci := 7) (fs := [.null]) (gB_len ho (by (simp only [List.length_cons, List.length_append, List.length_nil, blkX7_len]) <;> omega)) rfl gin7 gft7 wClRX5_9 wInRX7 wIiRX7 wDfX7 (Nat.le_of_ble_eq_true rfl) (Nat.le_of_ble_eq_true rfl) (gDec iX5_init_ok 3 rfl) rfl ?_
  refine gb_dup (q := 9) (gDec iX5_init_ok 4 rfl) rfl rfl ?_
  refine gb_bipush (v := nI 24) (q := 11) (gDec iX5_init_ok 5 rfl) (by decide) rfl ?_
  refine gb_iconst (v := 0) (q := 12) (gDec iX5_init_ok 6 rfl) (by decide) rfl ?_
  refine gb_callI (q := 15) (cs2 := 2) (sl2 := 25) wKiRX5_11 (cb_X7 (κ := κ) (pre := (pre ++ (.inr (5, [.null, .null, .null, .null, .null, .int 0]) :: []))) (o := o + 1) (n := 24) (v := 0) (gB_len ho (by (simp only [List.length_cons, List.length_append, List.length_nil, blkX7_len]) <;> omega)) (by decide) (by decide)) (gDec iX5_init_ok 7 rfl) rfl rfl (Nat.le_of_ble_eq_true rfl) rfl rfl ⟨Nat.le_of_ble_eq_true rfl, Nat.le_of_ble_eq_true rfl, Nat.le_of_ble_eq_true rfl, Nat.le_of_ble_eq_true rfl⟩ rfl ?_
  refine gb_w (show _ = (pre ++ (.inr (5, [.null, .null, .null, .null, .null, .int 0]) :: ([] ++ blkX7 κ (o + 1) 24 0))) from List.append_assoc _ _ _) ?_
  refine gb_putF (q := 18) (k := 0) fX5_14 wFlRX5_14 gft5 (gDec iX5_init_ok 8 rfl) (gB_at0 ho) rfl rfl rfl rfl rfl (Nat.le_of_ble_eq_true rfl) rfl ?_
  refine gb_w (show _ = (pre ++ (.inr (5, [.ref (κ.2.1 + (o + 1)), .null, .null, .null, .null, .int 0]) :: ([] ++ blkX7 κ (o + 1) 24 0))) from gB_set0 ho) ?_
  refine gb_aload_n (q := 19) (gDec iX5_init_ok 9 rfl) rfl rfl rfl ?_
  refine gb_new (q := 22) (o := o + 3) (ci := 7) (fs := [.null]) (gB_len ho (by (simp only [List.length_cons, List.length_append, List.length_nil, blkX7_len]) <;> omega)) rfl gin7 gft7 wClRX5_9 wInRX7 wIiRX7 wDfX7 (Nat.le_of_ble_eq_true rfl) (Nat.le_of_ble_eq_true rfl) (gDec iX5_init_ok 10 rfl) rfl ?_
  refine gb_dup (q := 23) (gDec iX5_init_ok 11 rfl) rfl rfl ?_
  refine gb_bipush (v := nI 24) (q := 25) (gDec iX5_init_ok 12 rfl) (by decide) rfl ?_
  refine gb_iconst (v := 0) (q := 26) (gDec iX5_init_ok 13 rfl) (by decide) rfl ?_
  refine gb_callI (q := 29) (cs2 := 4) (sl2 := 50) wKiRX5_11 (cb_X7 (κ := κ) (pre := (pre ++ (.inr (5, [.ref (κ.2.1 + (o + 1)), .null, .null, .null, .null, .int 0]) :: ([] ++ blkX7 κ (o + 1) 24 0)))) (o := o + 3) (n := 24) (v := 0) (gB_len ho (by (simp only [List.length_cons, List.length_append, List.length_nil, blkX7_len]) <;> omega)) (by decide) (by decide)) (gDec iX5_init_ok 14 rfl) rfl rfl (Nat.le_of_ble_eq_true rfl) rfl rfl ⟨Nat.le_of_ble_eq_true rfl, Nat.le_of_ble_eq_true rfl, Nat.le_of_ble_eq_true rfl, Nat.le_of_ble_eq_true rfl⟩ rfl ?_
  refine gb_w (show _ = (pre ++ (.inr (5, [.ref (κ.2.1 + (o + 1)), .null, .null, .null, .null, .int 0]) :: (([] ++ blkX7 κ (o + 1) 24 0) ++ blkX7 κ (o + 3) 24 0))) from List.append_assoc _ _ _) ?_
  refine gb_putF (q := 32) (k := 1) fX5_20 wFlRX5_20 gft5 (gDec iX5_init_ok 15 rfl) (gB_at0 ho) rfl rfl rfl rfl rfl (Nat.le_of_ble_eq_true rfl) rfl ?_
  refine gb_w (show _ = (pre ++ (.inr (5, [.ref (κ.2.1 + (o + 1)), .ref (κ.2.1 + (o + 3)), .null, .null, .null, .int 0]) :: (([] ++ blkX7 κ (o + 1) 24 0) ++ blkX7 κ (o + 3) 24 0))) from gB_set0 ho) ?_
  refine gb_aload_n (q := 33) (gDec iX5_init_ok 16 rfl) rfl rfl rfl ?_
  refine gb_new (q := 36) (o := o + 5) (ci := 7) (fs := [.null]) (gB_len ho (by (simp only [List.length_cons, List.length_append, List.length_nil, blkX7_len]) <;> omega)) rfl gin7 gft7 wClRX5_9 wInRX7 wIiRX7 wDfX7 (Nat.le_of_ble_eq_true rfl) (Nat.le_of_ble_eq_true rfl) (gDec iX5_init_ok 17 rfl) rfl ?_
  refine gb_dup (q := 37) (gDec iX5_init_ok 18 rfl) rfl rfl ?_
  refine gb_bipush (v := nI 72) (q := 39) (gDec iX5_init_ok 19 rfl) (by decide) rfl ?_
  refine gb_iconst (v := 0) (q := 40) (gDec iX5_init_ok 20 rfl) (by decide) rfl ?_
  refine gb_callI (q := 43) (cs2 := 6) (sl2 := 123) wKiRX5_11 (cb_X7 (κ := κ) (pre := (pre ++ (.inr (5, [.ref (κ.2.1 + (o + 1)), .ref (κ.2.1 + (o + 3)), .null, .null, .null, .int 0]) :: (([] ++ blkX7 κ (o + 1) 24 0) ++ blkX7 κ (o + 3) 24 0)))) (o := o + 5) (n := 72) (v := 0) (gB_len ho (by (simp only [List.length_cons, List.length_append, List.length_nil, blkX7_len]) <;> omega)) (by decide) (by decide)) (gDec iX5_init_ok 21 rfl) rfl rfl (Nat.le_of_ble_eq_true rfl) rfl rfl ⟨Nat.le_of_ble_eq_true rfl, Nat.le_of_ble_eq_true rfl, Nat.le_of_ble_eq_true rfl, Nat.le_of_ble_eq_true rfl⟩ rfl ?_
  refine gb_w (show _ = (pre ++ (.inr (5, [.ref (κ.2.1 + (o + 1)), .ref (κ.2.1 + (o + 3)), .null, .null, .null, .int 0]) :: ((([] ++ blkX7 κ (o + 1) 24 0) ++ blkX7 κ (o + 3) 24 0) ++ blkX7 κ (o + 5) 72 0))) from List.append_assoc _ _ _) ?_
  refine gb_putF (q := 46) (k := 2) fX5_23 wFlRX5_23 gft5 (gDec iX5_init_ok 22 rfl) (gB_at0 ho) rfl rfl rfl rfl rfl (Nat.le_of_ble_eq_true rfl) rfl ?_
  refine gb_w (show _ = (pre ++ (.inr (5, [.ref (κ.2.1 + (o + 1)), .ref (κ.2.1 + (o + 3)), .ref (κ.2.1 + (o + 5)), .null, .null, .int 0]) :: ((([] ++ blkX7 κ (o + 1) 24 0) ++ blkX7 κ (o + 3) 24 0) ++ blkX7 κ (o + 5) 72 0))) from gB_set0 ho) ?_
  refine gb_aload_n (q := 47) (gDec iX5_init_ok 23 rfl) rfl rfl rfl ?_
  refine gb_new (q := 50) (o := o + 7) (ci := 7) (fs := [.null]) (gB_len ho (by (simp only [List.length_cons, List.length_append, List.length_nil, blkX7_len]) <;> omega)) rfl gin7 gft7 wClRX5_9 wInRX7 wIiRX7 wDfX7 (Nat.le_of_ble_eq_true rfl) (Nat.le_of_ble_eq_true rfl) (gDec iX5_init_ok 24 rfl) rfl ?_
  refine gb_dup (q := 51) (gDec iX5_init_ok 25 rfl) rfl rfl ?_
  refine gb_sipush (v := nI 864) (q := 54) (gDec iX5_init_ok 26 rfl) (by decide) rfl ?_
  refine gb_iconst (v := 0) (q := 55) (gDec iX5_init_ok 27 rfl) (by decide) rfl ?_
  refine gb_callI (q := 58) (cs2 := 8) (sl2 := 988) wKiRX5_11 (cb_X7 (κ := κ) (pre := (pre ++ (.inr (5, [.ref (κ.2.1 + (o + 1)), .ref (κ.2.1 + (o + 3)), .ref (κ.2.1 + (o + 5)), .null, .null, .int 0]) :: ((([] ++ blkX7 κ (o + 1) 24 0) ++ blkX7 κ (o + 3) 24 0) ++ blkX7 κ (o + 5) 72 0)))) (o := o + 7) (n := 864) (v := 0) (gB_len ho (by (simp only [List.length_cons, List.length_append, List.length_nil, blkX7_len]) <;> omega)) (by decide) (by decide)) (gDec iX5_init_ok 28 rfl) rfl rfl (Nat.le_of_ble_eq_true rfl) rfl rfl ⟨Nat.le_of_ble_eq_true rfl, Nat.le_of_ble_eq_true rfl, Nat.le_of_ble_eq_true rfl, Nat.le_of_ble_eq_true rfl⟩ rfl ?_
  refine gb_w (show _ = (pre ++ (.inr (5, [.ref (κ.2.1 + (o + 1)), .ref (κ.2.1 + (o + 3)), .ref (κ.2.1 + (o + 5)), .null, .null, .int 0]) :: (((([] ++ blkX7 κ (o + 1) 24 0) ++ blkX7 κ (o + 3) 24 0) ++ blkX7 κ (o + 5) 72 0) ++ blkX7 κ (o + 7) 864 0))) from List.append_assoc _ _ _) ?_
  refine gb_putF (q := 61) (k := 3) fX5_26 wFlRX5_26 gft5 (gDec iX5_init_ok 29 rfl) (gB_at0 ho) rfl rfl rfl rfl rfl (Nat.le_of_ble_eq_true rfl) rfl ?_
  refine gb_w (show _ = (pre ++ (.inr (5, [.ref (κ.2.1 + (o + 1)), .ref (κ.2.1 + (o + 3)), .ref (κ.2.1 + (o + 5)), .ref (κ.2.1 + (o + 7)), .null, .int 0]) :: (((([] ++ blkX7 κ (o + 1) 24 0) ++ blkX7 κ (o + 3) 24 0) ++ blkX7 κ (o + 5) 72 0) ++ blkX7 κ (o + 7) 864 0))) from gB_set0 ho) ?_
  refine gb_aload_n (q := 62) (gDec iX5_init_ok 30 rfl) rfl rfl rfl ?_
  refine gb_new (q := 65) (o := o + 9) (ci := 7) (fs := [.null]) (gB_len ho (by (simp only [List.length_cons, List.length_append, List.length_nil, blkX7_len]) <;> omega)) rfl gin7 gft7 wClRX5_9 wInRX7 wIiRX7 wDfX7 (Nat.le_of_ble_eq_true rfl) (Nat.le_of_ble_eq_true rfl) (gDec iX5_init_ok 31 rfl) rfl ?_
  refine gb_dup (q := 66) (gDec iX5_init_ok 32 rfl) rfl rfl ?_
  refine gb_sipush (v := nI 864) (q := 69) (gDec iX5_init_ok 33 rfl) (by decide) rfl ?_
  refine gb_iconst (v := 0) (q := 70) (gDec iX5_init_ok 34 rfl) (by decide) rfl ?_
  refine gb_callI (q := 73) (cs2 := 10) (sl2 := 1853) wKiRX5_11 (cb_X7 (κ := κ) (pre := (pre ++ (.inr (5, [.ref (κ.2.1 + (o + 1)), .ref (κ.2.1 + (o + 3)), .ref (κ.2.1 + (o + 5)), .ref (κ.2.1 + (o + 7)), .null, .int 0]) :: (((([] ++ blkX7 κ (o + 1) 24 0) ++ blkX7 κ (o + 3) 24 0) ++ blkX7 κ (o + 5) 72 0) ++ blkX7 κ (o + 7) 864 0)))) (o := o + 9) (n := 864) (v := 0) (gB_len ho (by (simp only [List.length_cons, List.length_append, List.length_nil, blkX7_len]) <;> omega)) (by decide) (by decide)) (gDec iX5_init_ok 35 rfl) rfl rfl (Nat.le_of_ble_eq_true rfl) rfl rfl ⟨Nat.le_of_ble_eq_true rfl, Nat.le_of_ble_eq_true rfl, Nat.le_of_ble_eq_true rfl, Nat.le_of_ble_eq_true rfl⟩ rfl ?_
  refine gb_w (show _ = (pre ++ (.inr (5, [.ref (κ.2.1 + (o + 1)), .ref (κ.2.1 + (o + 3)), .ref (κ.2.1 + (o + 5)), .ref (κ.2.1 + (o + 7)), .null, .int 0]) :: ((((([] ++ blkX7 κ (o + 1) 24 0) ++ blkX7 κ (o + 3) 24 0) ++ blkX7 κ (o + 5) 72 0) ++ blkX7 κ (o + 7) 864 0) ++ blkX7 κ (o + 9) 864 0))) from List.append_assoc _ _ _) ?_
  refine gb_putF (q := 76) (k := 4) fX5_29 wFlRX5_29 gft5 (gDec iX5_init_ok 36 rfl) (gB_at0 ho) rfl rfl rfl rfl rfl (Nat.le_of_ble_eq_true rfl) rfl ?_
  refine gb_w (show _ = (pre ++ (.inr (5, [.ref (κ.2.1 + (o + 1)), .ref (κ.2.1 + (o + 3)), .ref (κ.2.1 + (o + 5)), .ref (κ.2.1 + (o + 7)), .ref (κ.2.1 + (o + 9)), .int 0]) :: ((((([] ++ blkX7 κ (o + 1) 24 0) ++ blkX7 κ (o + 3) 24 0) ++ blkX7 κ (o + 5) 72 0) ++ blkX7 κ (o + 7) 864 0) ++ blkX7 κ (o + 9) 864 0))) from gB_set0 ho) ?_
  refine gb_aload_n (q := 77) (gDec iX5_init_ok 37 rfl) rfl rfl rfl ?_
  refine gb_iconst (v := 0) (q := 78) (gDec iX5_init_ok 38 rfl) (by decide) rfl ?_
  refine gb_put (q := 81) (k := 5) fX5_32 wFlRX5_32 gft5 (gDec iX5_init_ok 39 rfl) (gB_at0 ho) rfl rfl rfl (Nat.le_of_ble_eq_true rfl) rfl ?_
  refine gb_w (show _ = (pre ++ (.inr (5, [.ref (κ.2.1 + (o + 1)), .ref (κ.2.1 + (o + 3)), .ref (κ.2.1 + (o + 5)), .ref (κ.2.1 + (o + 7)), .ref (κ.2.1 + (o + 9)), .int 0]) :: ((((([] ++ blkX7 κ (o + 1) 24 0) ++ blkX7 κ (o + 3) 24 0) ++ blkX7 κ (o + 5) 72 0) ++ blkX7 κ (o + 7) 864 0) ++ blkX7 κ (o + 9) 864 0))) from gB_set0 ho) ?_
  exact gb_ret (gDec iX5_init_ok 40 rfl) rfl rfl

def iX0_init : List (Nat × Instr × Nat) := [(0, .aload_n 0, 1), (1, .invokespecial 3, 3), (4, .aload_n 0, 1), (5, .new 9, 3), (8, .dup, 1), (9, .bipush 48, 2), (11, .bipush 50, 2), (13, .invokespecial 11, 3), (16, .putfield 14, 3), (19, .aload_n 0, 1), (20, .new 9, 3), (23, .dup, 1), (24, .bipush 48, 2), (26, .iconst (-1), 1), (27, .invokespecial 11, 3), (30, .putfield 20, 3), (33, .aload_n 0, 1), (34, .new 9, 3), (37, .dup, 1), (38, .bipush 48, 2), (40, .iconst 0, 1), (41, .invokespecial 11, 3), (44, .putfield 23, 3), (47, .return_, 1)]
theorem iX0_init_ok : gDecs mX0_init iX0_init := by decide +kernel

theorem wObRX0_3 : gOI RX0 3 := ⟨⟨gI1 (List.mem_of_getElem? (i := 82) rfl), rfl⟩, ⟨gI1 (List.mem_of_getElem? (i := 33) rfl), rfl⟩, ⟨gI1 (List.mem_of_getElem? (i := 34) rfl), rfl⟩⟩
theorem wClRX0_9 : gH (.classLink RX0 9 RX7) := ⟨gI1 (List.mem_of_getElem? (i := 83) rfl), rfl⟩
theorem wKiRX0_11 : gIL RX0 11 mX7_init 2 := ⟨⟨gI1 (List.mem_of_getElem? (i := 84) rfl), rfl⟩, wIbX7⟩
theorem wFlRX0_14 : gH (.fieldLink RX0 14 RX0 "told" "LTypeDesigner$Row;") := ⟨gI1 (List.mem_of_getElem? (i := 85) rfl), rfl⟩
theorem wFlRX0_20 : gH (.fieldLink RX0 20 RX0 "leaders" "LTypeDesigner$Row;") := ⟨gI1 (List.mem_of_getElem? (i := 86) rfl), rfl⟩
theorem wFlRX0_23 : gH (.fieldLink RX0 23 RX0 "differences" "LTypeDesigner$Row;") := ⟨gI1 (List.mem_of_getElem? (i := 87) rfl), rfl⟩
def blkX0 (κ : gK) (o : Nat) : List va_E := .inr (0, [.ref (κ.2.1 + (o + 1)), .ref (κ.2.1 + (o + 3)), .ref (κ.2.1 + (o + 5))]) :: ((([] ++ blkX7 κ (o + 1) 48 50) ++ blkX7 κ (o + 3) 48 (-1)) ++ blkX7 κ (o + 5) 48 0)
theorem blkX0_len (κ : gK) (o : Nat) : (blkX0 κ o).length = 7 := rfl
set_option maxHeartbeats 4000000 in
set_option maxRecDepth 100000 in
theorem cb_X0 {κ : gK} {pre : List va_E} {o : Nat} (ho : pre.length = o) : gCb κ mX0_init 2 [.ref (κ.2.1 + o)] (pre ++ [.inr (0, [.null, .null, .null])]) (pre ++ blkX0 κ o) 6 147 := by
  refine cb_of (by decide +kernel) rfl (Nat.le_of_ble_eq_true rfl) rfl ?_
  refine gb_aload_n (q := 1) (gDec iX0_init_ok 0 rfl) rfl rfl rfl ?_
  refine gb_obj (q := 4) wObRX0_3 (gDec iX0_init_ok 1 rfl) rfl (Nat.le_of_ble_eq_true rfl) (Nat.le_of_ble_eq_true rfl) rfl ?_
  refine gb_aload_n (q := 5) (gDec iX0_init_ok 2 rfl) rfl rfl rfl ?_
  refine gb_new (q := 8) (o := o + 1) (ci := 7) (fs := [.null]) (gB_len ho (by (simp only [List.length_cons, List.length_append, List.length_nil, blkX7_len, blkX5_len]) <;> omega)) rfl gin7 gft7 wClRX0_9 wInRX7 wIiRX7 wDfX7 (Nat.le_of_ble_eq_true rfl) (Nat.le_of_ble_eq_true rfl) (gDec iX0_init_ok 3 rfl) rfl ?_
  refine gb_dup (q := 9) (gDec iX0_init_ok 4 rfl) rfl rfl ?_
  refine gb_bipush (v := nI 48) (q := 11) (gDec iX0_init_ok 5 rfl) (by decide) rfl ?_
  refine gb_bipush (v := 50) (q := 13) (gDec iX0_init_ok 6 rfl) (by decide) rfl ?_
  refine gb_callI (q := 16) (cs2 := 2) (sl2 := 49) wKiRX0_11 (cb_X7 (κ := κ) (pre := (pre ++ (.inr (0, [.null, .null, .null]) :: []))) (o := o + 1) (n := 48) (v := 50) (gB_len ho (by (simp only [List.length_cons, List.length_append, List.length_nil, blkX7_len, blkX5_len]) <;> omega)) (by decide) (by decide)) (gDec iX0_init_ok 7 rfl) rfl rfl (Nat.le_of_ble_eq_true rfl) rfl rfl ⟨Nat.le_of_ble_eq_true rfl, Nat.le_of_ble_eq_true rfl, Nat.le_of_ble_eq_true rfl, Nat.le_of_ble_eq_true rfl⟩ rfl ?_
  refine gb_w (show _ = (pre ++ (.inr (0, [.null, .null, .null]) :: ([] ++ blkX7 κ (o + 1) 48 50))) from List.append_assoc _ _ _) ?_
  refine gb_putF (q := 19) (k := 0) fX0_14 wFlRX0_14 gft0 (gDec iX0_init_ok 8 rfl) (gB_at0 ho) rfl rfl rfl rfl rfl (Nat.le_of_ble_eq_true rfl) rfl ?_
  refine gb_w (show _ = (pre ++ (.inr (0, [.ref (κ.2.1 + (o + 1)), .null, .null]) :: ([] ++ blkX7 κ (o + 1) 48 50))) from gB_set0 ho) ?_
  refine gb_aload_n (q := 20) (gDec iX0_init_ok 9 rfl) rfl rfl rfl ?_
  refine gb_new (q := 23) (o := o + 3) (ci := 7) (fs := [.null]) (gB_len ho (by (simp only [List.length_cons, List.length_append, List.length_nil, blkX7_len, blkX5_len]) <;> omega)) rfl gin7 gft7 wClRX0_9 wInRX7 wIiRX7 wDfX7 (Nat.le_of_ble_eq_true rfl) (Nat.le_of_ble_eq_true rfl) (gDec iX0_init_ok 10 rfl) rfl ?_
  refine gb_dup (q := 24) (gDec iX0_init_ok 11 rfl) rfl rfl ?_
  refine gb_bipush (v := nI 48) (q := 26) (gDec iX0_init_ok 12 rfl) (by decide) rfl ?_
  refine gb_iconst (v := (-1)) (q := 27) (gDec iX0_init_ok 13 rfl) (by decide) rfl ?_
  refine gb_callI (q := 30) (cs2 := 4) (sl2 := 98) wKiRX0_11 (cb_X7 (κ := κ) (pre := (pre ++ (.inr (0, [.ref (κ.2.1 + (o + 1)), .null, .null]) :: ([] ++ blkX7 κ (o + 1) 48 50)))) (o := o + 3) (n := 48) (v := (-1)) (gB_len ho (by (simp only [List.length_cons, List.length_append, List.length_nil, blkX7_len, blkX5_len]) <;> omega)) (by decide) (by decide)) (gDec iX0_init_ok 14 rfl) rfl rfl (Nat.le_of_ble_eq_true rfl) rfl rfl ⟨Nat.le_of_ble_eq_true rfl, Nat.le_of_ble_eq_true rfl, Nat.le_of_ble_eq_true rfl, Nat.le_of_ble_eq_true rfl⟩ rfl ?_
  refine gb_w (show _ = (pre ++ (.inr (0, [.ref (κ.2.1 + (o + 1)), .null, .null]) :: (([] ++ blkX7 κ (o + 1) 48 50) ++ blkX7 κ (o + 3) 48 (-1)))) from List.append_assoc _ _ _) ?_
  refine gb_putF (q := 33) (k := 1) fX0_20 wFlRX0_20 gft0 (gDec iX0_init_ok 15 rfl) (gB_at0 ho) rfl rfl rfl rfl rfl (Nat.le_of_ble_eq_true rfl) rfl ?_
  refine gb_w (show _ = (pre ++ (.inr (0, [.ref (κ.2.1 + (o + 1)), .ref (κ.2.1 + (o + 3)), .null]) :: (([] ++ blkX7 κ (o + 1) 48 50) ++ blkX7 κ (o + 3) 48 (-1)))) from gB_set0 ho) ?_
  refine gb_aload_n (q := 34) (gDec iX0_init_ok 16 rfl) rfl rfl rfl ?_
  refine gb_new (q := 37) (o := o + 5) (ci := 7) (fs := [.null]) (gB_len ho (by (simp only [List.length_cons, List.length_append, List.length_nil, blkX7_len, blkX5_len]) <;> omega)) rfl gin7 gft7 wClRX0_9 wInRX7 wIiRX7 wDfX7 (Nat.le_of_ble_eq_true rfl) (Nat.le_of_ble_eq_true rfl) (gDec iX0_init_ok 17 rfl) rfl ?_
  refine gb_dup (q := 38) (gDec iX0_init_ok 18 rfl) rfl rfl ?_
  refine gb_bipush (v := nI 48) (q := 40) (gDec iX0_init_ok 19 rfl) (by decide) rfl ?_
  refine gb_iconst (v := 0) (q := 41) (gDec iX0_init_ok 20 rfl) (by decide) rfl ?_
  refine gb_callI (q := 44) (cs2 := 6) (sl2 := 147) wKiRX0_11 (cb_X7 (κ := κ) (pre := (pre ++ (.inr (0, [.ref (κ.2.1 + (o + 1)), .ref (κ.2.1 + (o + 3)), .null]) :: (([] ++ blkX7 κ (o + 1) 48 50) ++ blkX7 κ (o + 3) 48 (-1))))) (o := o + 5) (n := 48) (v := 0) (gB_len ho (by (simp only [List.length_cons, List.length_append, List.length_nil, blkX7_len, blkX5_len]) <;> omega)) (by decide) (by decide)) (gDec iX0_init_ok 21 rfl) rfl rfl (Nat.le_of_ble_eq_true rfl) rfl rfl ⟨Nat.le_of_ble_eq_true rfl, Nat.le_of_ble_eq_true rfl, Nat.le_of_ble_eq_true rfl, Nat.le_of_ble_eq_true rfl⟩ rfl ?_
  refine gb_w (show _ = (pre ++ (.inr (0, [.ref (κ.2.1 + (o + 1)), .ref (κ.2.1 + (o + 3)), .null]) :: ((([] ++ blkX7 κ (o + 1) 48 50) ++ blkX7 κ (o + 3) 48 (-1)) ++ blkX7 κ (o + 5) 48 0))) from List.append_assoc _ _ _) ?_
  refine gb_putF (q := 47) (k := 2) fX0_23 wFlRX0_23 gft0 (gDec iX0_init_ok 22 rfl) (gB_at0 ho) rfl rfl rfl rfl rfl (Nat.le_of_ble_eq_true rfl) rfl ?_
  refine gb_w (show _ = (pre ++ (.inr (0, [.ref (κ.2.1 + (o + 1)), .ref (κ.2.1 + (o + 3)), .ref (κ.2.1 + (o + 5))]) :: ((([] ++ blkX7 κ (o + 1) 48 50) ++ blkX7 κ (o + 3) 48 (-1)) ++ blkX7 κ (o + 5) 48 0))) from gB_set0 ho) ?_
  exact gb_ret (gDec iX0_init_ok 23 rfl) rfl rfl

def iX4_init : List (Nat × Instr × Nat) := [(0, .aload_n 0, 1), (1, .invokespecial 3, 3), (4, .aload_n 0, 1), (5, .new 9, 3), (8, .dup, 1), (9, .bipush 24, 2), (11, .iconst (-1), 1), (12, .invokespecial 11, 3), (15, .putfield 14, 3), (18, .aload_n 0, 1), (19, .new 9, 3), (22, .dup, 1), (23, .bipush 24, 2), (25, .iconst (-1), 1), (26, .invokespecial 11, 3), (29, .putfield 20, 3), (32, .aload_n 0, 1), (33, .new 9, 3), (36, .dup, 1), (37, .bipush 36, 2), (39, .sipush 301, 3), (42, .invokespecial 11, 3), (45, .putfield 23, 3), (48, .aload_n 0, 1), (49, .new 9, 3), (52, .dup, 1), (53, .sipush 576, 3), (56, .sipush 301, 3), (59, .invokespecial 11, 3), (62, .putfield 26, 3), (65, .aload_n 0, 1), (66, .iconst 0, 1), (67, .putfield 29, 3), (70, .aload_n 0, 1), (71, .iconst 0, 1), (72, .putfield 33, 3), (75, .return_, 1)]
theorem iX4_init_ok : gDecs mX4_init iX4_init := by decide +kernel

theorem wObRX4_3 : gOI RX4 3 := ⟨⟨gI1 (List.mem_of_getElem? (i := 100) rfl), rfl⟩, ⟨gI1 (List.mem_of_getElem? (i := 33) rfl), rfl⟩, ⟨gI1 (List.mem_of_getElem? (i := 34) rfl), rfl⟩⟩
theorem wClRX4_9 : gH (.classLink RX4 9 RX7) := ⟨gI1 (List.mem_of_getElem? (i := 101) rfl), rfl⟩
theorem wKiRX4_11 : gIL RX4 11 mX7_init 2 := ⟨⟨gI1 (List.mem_of_getElem? (i := 102) rfl), rfl⟩, wIbX7⟩
theorem wFlRX4_14 : gH (.fieldLink RX4 14 RX4 "firstClasses" "LTypeDesigner$Row;") := ⟨gI1 (List.mem_of_getElem? (i := 103) rfl), rfl⟩
theorem wFlRX4_20 : gH (.fieldLink RX4 20 RX4 "secondClasses" "LTypeDesigner$Row;") := ⟨gI1 (List.mem_of_getElem? (i := 104) rfl), rfl⟩
theorem wFlRX4_23 : gH (.fieldLink RX4 23 RX4 "classKerns" "LTypeDesigner$Row;") := ⟨gI1 (List.mem_of_getElem? (i := 105) rfl), rfl⟩
theorem wFlRX4_26 : gH (.fieldLink RX4 26 RX4 "pairKerns" "LTypeDesigner$Row;") := ⟨gI1 (List.mem_of_getElem? (i := 106) rfl), rfl⟩
theorem wFlRX4_29 : gH (.fieldLink RX4 29 RX4 "toldForClasses" "I") := ⟨gI1 (List.mem_of_getElem? (i := 107) rfl), rfl⟩
theorem wFlRX4_33 : gH (.fieldLink RX4 33 RX4 "toldForPairs" "I") := ⟨gI1 (List.mem_of_getElem? (i := 108) rfl), rfl⟩
def blkX4 (κ : gK) (o : Nat) : List va_E := .inr (4, [.ref (κ.2.1 + (o + 1)), .ref (κ.2.1 + (o + 3)), .ref (κ.2.1 + (o + 5)), .ref (κ.2.1 + (o + 7)), .int 0, .int 0]) :: (((([] ++ blkX7 κ (o + 1) 24 (-1)) ++ blkX7 κ (o + 3) 24 (-1)) ++ blkX7 κ (o + 5) 36 301) ++ blkX7 κ (o + 7) 576 301)
theorem blkX4_len (κ : gK) (o : Nat) : (blkX4 κ o).length = 9 := rfl
set_option maxHeartbeats 4000000 in
set_option maxRecDepth 100000 in
theorem cb_X4 {κ : gK} {pre : List va_E} {o : Nat} (ho : pre.length = o) : gCb κ mX4_init 2 [.ref (κ.2.1 + o)] (pre ++ [.inr (4, [.null, .null, .null, .null, .int 0, .int 0])]) (pre ++ blkX4 κ o) 8 664 := by
  refine cb_of (by decide +kernel) rfl (Nat.le_of_ble_eq_true rfl) rfl ?_
  refine gb_aload_n (q := 1) (gDec iX4_init_ok 0 rfl) rfl rfl rfl ?_
  refine gb_obj (q := 4) wObRX4_3 (gDec iX4_init_ok 1 rfl) rfl (Nat.le_of_ble_eq_true rfl) (Nat.le_of_ble_eq_true rfl) rfl ?_
  refine gb_aload_n (q := 5) (gDec iX4_init_ok 2 rfl) rfl rfl rfl ?_
  refine gb_new (q := 8) (o := o + 1) (ci := 7) (fs := [.null]) (gB_len ho (by (simp only [List.length_cons, List.length_append, List.length_nil, blkX7_len, blkX0_len, blkX5_len]) <;> omega)) rfl gin7 gft7 wClRX4_9 wInRX7 wIiRX7 wDfX7 (Nat.le_of_ble_eq_true rfl) (Nat.le_of_ble_eq_true rfl) (gDec iX4_init_ok 3 rfl) rfl ?_
  refine gb_dup (q := 9) (gDec iX4_init_ok 4 rfl) rfl rfl ?_
  refine gb_bipush (v := nI 24) (q := 11) (gDec iX4_init_ok 5 rfl) (by decide) rfl ?_
  refine gb_iconst (v := (-1)) (q := 12) (gDec iX4_init_ok 6 rfl) (by decide) rfl ?_
  refine gb_callI (q := 15) (cs2 := 2) (sl2 := 25) wKiRX4_11 (cb_X7 (κ := κ) (pre := (pre ++ (.inr (4, [.null, .null, .null, .null, .int 0, .int 0]) :: []))) (o := o + 1) (n := 24) (v := (-1)) (gB_len ho (by (simp only [List.length_cons, List.length_append, List.length_nil, blkX7_len, blkX0_len, blkX5_len]) <;> omega)) (by decide) (by decide)) (gDec iX4_init_ok 7 rfl) rfl rfl (Nat.le_of_ble_eq_true rfl) rfl rfl ⟨Nat.le_of_ble_eq_true rfl, Nat.le_of_ble_eq_true rfl, Nat.le_of_ble_eq_true rfl, Nat.le_of_ble_eq_true rfl⟩ rfl ?_
  refine gb_w (show _ = (pre ++ (.inr (4, [.null, .null, .null, .null, .int 0, .int 0]) :: ([] ++ blkX7 κ (o + 1) 24 (-1)))) from List.append_assoc _ _ _) ?_
  refine gb_putF (q := 18) (k := 0) fX4_14 wFlRX4_14 gft4 (gDec iX4_init_ok 8 rfl) (gB_at0 ho) rfl rfl rfl rfl rfl (Nat.le_of_ble_eq_true rfl) rfl ?_
  refine gb_w (show _ = (pre ++ (.inr (4, [.ref (κ.2.1 + (o + 1)), .null, .null, .null, .int 0, .int 0]) :: ([] ++ blkX7 κ (o + 1) 24 (-1)))) from gB_set0 ho) ?_
  refine gb_aload_n (q := 19) (gDec iX4_init_ok 9 rfl) rfl rfl rfl ?_
  refine gb_new (q := 22) (o := o + 3) (ci := 7) (fs := [.null]) (gB_len ho (by (simp only [List.length_cons, List.length_append, List.length_nil, blkX7_len, blkX0_len, blkX5_len]) <;> omega)) rfl gin7 gft7 wClRX4_9 wInRX7 wIiRX7 wDfX7 (Nat.le_of_ble_eq_true rfl) (Nat.le_of_ble_eq_true rfl) (gDec iX4_init_ok 10 rfl) rfl ?_
  refine gb_dup (q := 23) (gDec iX4_init_ok 11 rfl) rfl rfl ?_
  refine gb_bipush (v := nI 24) (q := 25) (gDec iX4_init_ok 12 rfl) (by decide) rfl ?_
  refine gb_iconst (v := (-1)) (q := 26) (gDec iX4_init_ok 13 rfl) (by decide) rfl ?_
  refine gb_callI (q := 29) (cs2 := 4) (sl2 := 50) wKiRX4_11 (cb_X7 (κ := κ) (pre := (pre ++ (.inr (4, [.ref (κ.2.1 + (o + 1)), .null, .null, .null, .int 0, .int 0]) :: ([] ++ blkX7 κ (o + 1) 24 (-1))))) (o := o + 3) (n := 24) (v := (-1)) (gB_len ho (by (simp only [List.length_cons, List.length_append, List.length_nil, blkX7_len, blkX0_len, blkX5_len]) <;> omega)) (by decide) (by decide)) (gDec iX4_init_ok 14 rfl) rfl rfl (Nat.le_of_ble_eq_true rfl) rfl rfl ⟨Nat.le_of_ble_eq_true rfl, Nat.le_of_ble_eq_true rfl, Nat.le_of_ble_eq_true rfl, Nat.le_of_ble_eq_true rfl⟩ rfl ?_
  refine gb_w (show _ = (pre ++ (.inr (4, [.ref (κ.2.1 + (o + 1)), .null, .null, .null, .int 0, .int 0]) :: (([] ++ blkX7 κ (o + 1) 24 (-1)) ++ blkX7 κ (o + 3) 24 (-1)))) from List.append_assoc _ _ _) ?_
  refine gb_putF (q := 32) (k := 1) fX4_20 wFlRX4_20 gft4 (gDec iX4_init_ok 15 rfl) (gB_at0 ho) rfl rfl rfl rfl rfl (Nat.le_of_ble_eq_true rfl) rfl ?_
  refine gb_w (show _ = (pre ++ (.inr (4, [.ref (κ.2.1 + (o + 1)), .ref (κ.2.1 + (o + 3)), .null, .null, .int 0, .int 0]) :: (([] ++ blkX7 κ (o + 1) 24 (-1)) ++ blkX7 κ (o + 3) 24 (-1)))) from gB_set0 ho) ?_
  refine gb_aload_n (q := 33) (gDec iX4_init_ok 16 rfl) rfl rfl rfl ?_
  refine gb_new (q := 36) (o := o + 5) (ci := 7) (fs := [.null]) (gB_len ho (by (simp only [List.length_cons, List.length_append, List.length_nil, blkX7_len, blkX0_len, blkX5_len]) <;> omega)) rfl gin7 gft7 wClRX4_9 wInRX7 wIiRX7 wDfX7 (Nat.le_of_ble_eq_true rfl) (Nat.le_of_ble_eq_true rfl) (gDec iX4_init_ok 17 rfl) rfl ?_
  refine gb_dup (q := 37) (gDec iX4_init_ok 18 rfl) rfl rfl ?_
  refine gb_bipush (v := nI 36) (q := 39) (gDec iX4_init_ok 19 rfl) (by decide) rfl ?_
  refine gb_sipush (v := 301) (q := 42) (gDec iX4_init_ok 20 rfl) (by decide) rfl ?_
  refine gb_callI (q := 45) (cs2 := 6) (sl2 := 87) wKiRX4_11 (cb_X7 (κ := κ) (pre := (pre ++ (.inr (4, [.ref (κ.2.1 + (o + 1)), .ref (κ.2.1 + (o + 3)), .null, .null, .int 0, .int 0]) :: (([] ++ blkX7 κ (o + 1) 24 (-1)) ++ blkX7 κ (o + 3) 24 (-1))))) (o := o + 5) (n := 36) (v := 301) (gB_len ho (by (simp only [List.length_cons, List.length_append, List.length_nil, blkX7_len, blkX0_len, blkX5_len]) <;> omega)) (by decide) (by decide)) (gDec iX4_init_ok 21 rfl) rfl rfl (Nat.le_of_ble_eq_true rfl) rfl rfl ⟨Nat.le_of_ble_eq_true rfl, Nat.le_of_ble_eq_true rfl, Nat.le_of_ble_eq_true rfl, Nat.le_of_ble_eq_true rfl⟩ rfl ?_
  refine gb_w (show _ = (pre ++ (.inr (4, [.ref (κ.2.1 + (o + 1)), .ref (κ.2.1 + (o + 3)), .null, .null, .int 0, .int 0]) :: ((([] ++ blkX7 κ (o + 1) 24 (-1)) ++ blkX7 κ (o + 3) 24 (-1)) ++ blkX7 κ (o + 5) 36 301))) from List.append_assoc _ _ _) ?_
  refine gb_putF (q := 48) (k := 2) fX4_23 wFlRX4_23 gft4 (gDec iX4_init_ok 22 rfl) (gB_at0 ho) rfl rfl rfl rfl rfl (Nat.le_of_ble_eq_true rfl) rfl ?_
  refine gb_w (show _ = (pre ++ (.inr (4, [.ref (κ.2.1 + (o + 1)), .ref (κ.2.1 + (o + 3)), .ref (κ.2.1 + (o + 5)), .null, .int 0, .int 0]) :: ((([] ++ blkX7 κ (o + 1) 24 (-1)) ++ blkX7 κ (o + 3) 24 (-1)) ++ blkX7 κ (o + 5) 36 301))) from gB_set0 ho) ?_
  refine gb_aload_n (q := 49) (gDec iX4_init_ok 23 rfl) rfl rfl rfl ?_
  refine gb_new (q := 52) (o := o + 7) (ci := 7) (fs := [.null]) (gB_len ho (by (simp only [List.length_cons, List.length_append, List.length_nil, blkX7_len, blkX0_len, blkX5_len]) <;> omega)) rfl gin7 gft7 wClRX4_9 wInRX7 wIiRX7 wDfX7 (Nat.le_of_ble_eq_true rfl) (Nat.le_of_ble_eq_true rfl) (gDec iX4_init_ok 24 rfl) rfl ?_
  refine gb_dup (q := 53) (gDec iX4_init_ok 25 rfl) rfl rfl ?_
  refine gb_sipush (v := nI 576) (q := 56) (gDec iX4_init_ok 26 rfl) (by decide) rfl ?_
  refine gb_sipush (v := 301) (q := 59) (gDec iX4_init_ok 27 rfl) (by decide) rfl ?_
  refine gb_callI (q := 62) (cs2 := 8) (sl2 := 664) wKiRX4_11 (cb_X7 (κ := κ) (pre := (pre ++ (.inr (4, [.ref (κ.2.1 + (o + 1)), .ref (κ.2.1 + (o + 3)), .ref (κ.2.1 + (o + 5)), .null, .int 0, .int 0]) :: ((([] ++ blkX7 κ (o + 1) 24 (-1)) ++ blkX7 κ (o + 3) 24 (-1)) ++ blkX7 κ (o + 5) 36 301)))) (o := o + 7) (n := 576) (v := 301) (gB_len ho (by (simp only [List.length_cons, List.length_append, List.length_nil, blkX7_len, blkX0_len, blkX5_len]) <;> omega)) (by decide) (by decide)) (gDec iX4_init_ok 28 rfl) rfl rfl (Nat.le_of_ble_eq_true rfl) rfl rfl ⟨Nat.le_of_ble_eq_true rfl, Nat.le_of_ble_eq_true rfl, Nat.le_of_ble_eq_true rfl, Nat.le_of_ble_eq_true rfl⟩ rfl ?_
  refine gb_w (show _ = (pre ++ (.inr (4, [.ref (κ.2.1 + (o + 1)), .ref (κ.2.1 + (o + 3)), .ref (κ.2.1 + (o + 5)), .null, .int 0, .int 0]) :: (((([] ++ blkX7 κ (o + 1) 24 (-1)) ++ blkX7 κ (o + 3) 24 (-1)) ++ blkX7 κ (o + 5) 36 301) ++ blkX7 κ (o + 7) 576 301))) from List.append_assoc _ _ _) ?_
  refine gb_putF (q := 65) (k := 3) fX4_26 wFlRX4_26 gft4 (gDec iX4_init_ok 29 rfl) (gB_at0 ho) rfl rfl rfl rfl rfl (Nat.le_of_ble_eq_true rfl) rfl ?_
  refine gb_w (show _ = (pre ++ (.inr (4, [.ref (κ.2.1 + (o + 1)), .ref (κ.2.1 + (o + 3)), .ref (κ.2.1 + (o + 5)), .ref (κ.2.1 + (o + 7)), .int 0, .int 0]) :: (((([] ++ blkX7 κ (o + 1) 24 (-1)) ++ blkX7 κ (o + 3) 24 (-1)) ++ blkX7 κ (o + 5) 36 301) ++ blkX7 κ (o + 7) 576 301))) from gB_set0 ho) ?_
  refine gb_aload_n (q := 66) (gDec iX4_init_ok 30 rfl) rfl rfl rfl ?_
  refine gb_iconst (v := 0) (q := 67) (gDec iX4_init_ok 31 rfl) (by decide) rfl ?_
  refine gb_put (q := 70) (k := 4) fX4_29 wFlRX4_29 gft4 (gDec iX4_init_ok 32 rfl) (gB_at0 ho) rfl rfl rfl (Nat.le_of_ble_eq_true rfl) rfl ?_
  refine gb_w (show _ = (pre ++ (.inr (4, [.ref (κ.2.1 + (o + 1)), .ref (κ.2.1 + (o + 3)), .ref (κ.2.1 + (o + 5)), .ref (κ.2.1 + (o + 7)), .int 0, .int 0]) :: (((([] ++ blkX7 κ (o + 1) 24 (-1)) ++ blkX7 κ (o + 3) 24 (-1)) ++ blkX7 κ (o + 5) 36 301) ++ blkX7 κ (o + 7) 576 301))) from gB_set0 ho) ?_
  refine gb_aload_n (q := 71) (gDec iX4_init_ok 33 rfl) rfl rfl rfl ?_
  refine gb_iconst (v := 0) (q := 72) (gDec iX4_init_ok 34 rfl) (by decide) rfl ?_
  refine gb_put (q := 75) (k := 5) fX4_33 wFlRX4_33 gft4 (gDec iX4_init_ok 35 rfl) (gB_at0 ho) rfl rfl rfl (Nat.le_of_ble_eq_true rfl) rfl ?_
  refine gb_w (show _ = (pre ++ (.inr (4, [.ref (κ.2.1 + (o + 1)), .ref (κ.2.1 + (o + 3)), .ref (κ.2.1 + (o + 5)), .ref (κ.2.1 + (o + 7)), .int 0, .int 0]) :: (((([] ++ blkX7 κ (o + 1) 24 (-1)) ++ blkX7 κ (o + 3) 24 (-1)) ++ blkX7 κ (o + 5) 36 301) ++ blkX7 κ (o + 7) 576 301))) from gB_set0 ho) ?_
  exact gb_ret (gDec iX4_init_ok 36 rfl) rfl rfl

def iX8_init : List (Nat × Instr × Nat) := [(0, .aload_n 0, 1), (1, .invokespecial 3, 3), (4, .aload_n 0, 1), (5, .new 9, 3), (8, .dup, 1), (9, .bipush 24, 2), (11, .iconst 0, 1), (12, .invokespecial 11, 3), (15, .putfield 14, 3), (18, .aload_n 0, 1), (19, .new 9, 3), (22, .dup, 1), (23, .bipush 96, 2), (25, .iconst 0, 1), (26, .invokespecial 11, 3), (29, .putfield 20, 3), (32, .aload_n 0, 1), (33, .new 9, 3), (36, .dup, 1), (37, .bipush 96, 2), (39, .iconst 0, 1), (40, .invokespecial 11, 3), (43, .putfield 23, 3), (46, .return_, 1)]
theorem iX8_init_ok : gDecs mX8_init iX8_init := by decide +kernel

theorem wObRX8_3 : gOI RX8 3 := ⟨⟨gI1 (List.mem_of_getElem? (i := 127) rfl), rfl⟩, ⟨gI1 (List.mem_of_getElem? (i := 33) rfl), rfl⟩, ⟨gI1 (List.mem_of_getElem? (i := 34) rfl), rfl⟩⟩
theorem wClRX8_9 : gH (.classLink RX8 9 RX7) := ⟨gI1 (List.mem_of_getElem? (i := 128) rfl), rfl⟩
theorem wKiRX8_11 : gIL RX8 11 mX7_init 2 := ⟨⟨gI1 (List.mem_of_getElem? (i := 129) rfl), rfl⟩, wIbX7⟩
theorem wFlRX8_14 : gH (.fieldLink RX8 14 RX8 "counts" "LTypeDesigner$Row;") := ⟨gI1 (List.mem_of_getElem? (i := 130) rfl), rfl⟩
theorem wFlRX8_20 : gH (.fieldLink RX8 20 RX8 "lefts" "LTypeDesigner$Row;") := ⟨gI1 (List.mem_of_getElem? (i := 131) rfl), rfl⟩
theorem wFlRX8_23 : gH (.fieldLink RX8 23 RX8 "rights" "LTypeDesigner$Row;") := ⟨gI1 (List.mem_of_getElem? (i := 132) rfl), rfl⟩
def blkX8 (κ : gK) (o : Nat) : List va_E := .inr (8, [.ref (κ.2.1 + (o + 1)), .ref (κ.2.1 + (o + 3)), .ref (κ.2.1 + (o + 5))]) :: ((([] ++ blkX7 κ (o + 1) 24 0) ++ blkX7 κ (o + 3) 96 0) ++ blkX7 κ (o + 5) 96 0)
theorem blkX8_len (κ : gK) (o : Nat) : (blkX8 κ o).length = 7 := rfl
set_option maxHeartbeats 4000000 in
set_option maxRecDepth 100000 in
theorem cb_X8 {κ : gK} {pre : List va_E} {o : Nat} (ho : pre.length = o) : gCb κ mX8_init 2 [.ref (κ.2.1 + o)] (pre ++ [.inr (8, [.null, .null, .null])]) (pre ++ blkX8 κ o) 6 219 := by
  refine cb_of (by decide +kernel) rfl (Nat.le_of_ble_eq_true rfl) rfl ?_
  refine gb_aload_n (q := 1) (gDec iX8_init_ok 0 rfl) rfl rfl rfl ?_
  refine gb_obj (q := 4) wObRX8_3 (gDec iX8_init_ok 1 rfl) rfl (Nat.le_of_ble_eq_true rfl) (Nat.le_of_ble_eq_true rfl) rfl ?_
  refine gb_aload_n (q := 5) (gDec iX8_init_ok 2 rfl) rfl rfl rfl ?_
  refine gb_new (q := 8) (o := o + 1) (ci := 7) (fs := [.null]) (gB_len ho (by (simp only [List.length_cons, List.length_append, List.length_nil, blkX7_len, blkX0_len, blkX4_len, blkX5_len]) <;> omega)) rfl gin7 gft7 wClRX8_9 wInRX7 wIiRX7 wDfX7 (Nat.le_of_ble_eq_true rfl) (Nat.le_of_ble_eq_true rfl) (gDec iX8_init_ok 3 rfl) rfl ?_
  refine gb_dup (q := 9) (gDec iX8_init_ok 4 rfl) rfl rfl ?_
  refine gb_bipush (v := nI 24) (q := 11) (gDec iX8_init_ok 5 rfl) (by decide) rfl ?_
  refine gb_iconst (v := 0) (q := 12) (gDec iX8_init_ok 6 rfl) (by decide) rfl ?_
  refine gb_callI (q := 15) (cs2 := 2) (sl2 := 25) wKiRX8_11 (cb_X7 (κ := κ) (pre := (pre ++ (.inr (8, [.null, .null, .null]) :: []))) (o := o + 1) (n := 24) (v := 0) (gB_len ho (by (simp only [List.length_cons, List.length_append, List.length_nil, blkX7_len, blkX0_len, blkX4_len, blkX5_len]) <;> omega)) (by decide) (by decide)) (gDec iX8_init_ok 7 rfl) rfl rfl (Nat.le_of_ble_eq_true rfl) rfl rfl ⟨Nat.le_of_ble_eq_true rfl, Nat.le_of_ble_eq_true rfl, Nat.le_of_ble_eq_true rfl, Nat.le_of_ble_eq_true rfl⟩ rfl ?_
  refine gb_w (show _ = (pre ++ (.inr (8, [.null, .null, .null]) :: ([] ++ blkX7 κ (o + 1) 24 0))) from List.append_assoc _ _ _) ?_
  refine gb_putF (q := 18) (k := 0) fX8_14 wFlRX8_14 gft8 (gDec iX8_init_ok 8 rfl) (gB_at0 ho) rfl rfl rfl rfl rfl (Nat.le_of_ble_eq_true rfl) rfl ?_
  refine gb_w (show _ = (pre ++ (.inr (8, [.ref (κ.2.1 + (o + 1)), .null, .null]) :: ([] ++ blkX7 κ (o + 1) 24 0))) from gB_set0 ho) ?_
  refine gb_aload_n (q := 19) (gDec iX8_init_ok 9 rfl) rfl rfl rfl ?_
  refine gb_new (q := 22) (o := o + 3) (ci := 7) (fs := [.null]) (gB_len ho (by (simp only [List.length_cons, List.length_append, List.length_nil, blkX7_len, blkX0_len, blkX4_len, blkX5_len]) <;> omega)) rfl gin7 gft7 wClRX8_9 wInRX7 wIiRX7 wDfX7 (Nat.le_of_ble_eq_true rfl) (Nat.le_of_ble_eq_true rfl) (gDec iX8_init_ok 10 rfl) rfl ?_
  refine gb_dup (q := 23) (gDec iX8_init_ok 11 rfl) rfl rfl ?_
  refine gb_bipush (v := nI 96) (q := 25) (gDec iX8_init_ok 12 rfl) (by decide) rfl ?_
  refine gb_iconst (v := 0) (q := 26) (gDec iX8_init_ok 13 rfl) (by decide) rfl ?_
  refine gb_callI (q := 29) (cs2 := 4) (sl2 := 122) wKiRX8_11 (cb_X7 (κ := κ) (pre := (pre ++ (.inr (8, [.ref (κ.2.1 + (o + 1)), .null, .null]) :: ([] ++ blkX7 κ (o + 1) 24 0)))) (o := o + 3) (n := 96) (v := 0) (gB_len ho (by (simp only [List.length_cons, List.length_append, List.length_nil, blkX7_len, blkX0_len, blkX4_len, blkX5_len]) <;> omega)) (by decide) (by decide)) (gDec iX8_init_ok 14 rfl) rfl rfl (Nat.le_of_ble_eq_true rfl) rfl rfl ⟨Nat.le_of_ble_eq_true rfl, Nat.le_of_ble_eq_true rfl, Nat.le_of_ble_eq_true rfl, Nat.le_of_ble_eq_true rfl⟩ rfl ?_
  refine gb_w (show _ = (pre ++ (.inr (8, [.ref (κ.2.1 + (o + 1)), .null, .null]) :: (([] ++ blkX7 κ (o + 1) 24 0) ++ blkX7 κ (o + 3) 96 0))) from List.append_assoc _ _ _) ?_
  refine gb_putF (q := 32) (k := 1) fX8_20 wFlRX8_20 gft8 (gDec iX8_init_ok 15 rfl) (gB_at0 ho) rfl rfl rfl rfl rfl (Nat.le_of_ble_eq_true rfl) rfl ?_
  refine gb_w (show _ = (pre ++ (.inr (8, [.ref (κ.2.1 + (o + 1)), .ref (κ.2.1 + (o + 3)), .null]) :: (([] ++ blkX7 κ (o + 1) 24 0) ++ blkX7 κ (o + 3) 96 0))) from gB_set0 ho) ?_
  refine gb_aload_n (q := 33) (gDec iX8_init_ok 16 rfl) rfl rfl rfl ?_
  refine gb_new (q := 36) (o := o + 5) (ci := 7) (fs := [.null]) (gB_len ho (by (simp only [List.length_cons, List.length_append, List.length_nil, blkX7_len, blkX0_len, blkX4_len, blkX5_len]) <;> omega)) rfl gin7 gft7 wClRX8_9 wInRX7 wIiRX7 wDfX7 (Nat.le_of_ble_eq_true rfl) (Nat.le_of_ble_eq_true rfl) (gDec iX8_init_ok 17 rfl) rfl ?_
  refine gb_dup (q := 37) (gDec iX8_init_ok 18 rfl) rfl rfl ?_
  refine gb_bipush (v := nI 96) (q := 39) (gDec iX8_init_ok 19 rfl) (by decide) rfl ?_
  refine gb_iconst (v := 0) (q := 40) (gDec iX8_init_ok 20 rfl) (by decide) rfl ?_
  refine gb_callI (q := 43) (cs2 := 6) (sl2 := 219) wKiRX8_11 (cb_X7 (κ := κ) (pre := (pre ++ (.inr (8, [.ref (κ.2.1 + (o + 1)), .ref (κ.2.1 + (o + 3)), .null]) :: (([] ++ blkX7 κ (o + 1) 24 0) ++ blkX7 κ (o + 3) 96 0)))) (o := o + 5) (n := 96) (v := 0) (gB_len ho (by (simp only [List.length_cons, List.length_append, List.length_nil, blkX7_len, blkX0_len, blkX4_len, blkX5_len]) <;> omega)) (by decide) (by decide)) (gDec iX8_init_ok 21 rfl) rfl rfl (Nat.le_of_ble_eq_true rfl) rfl rfl ⟨Nat.le_of_ble_eq_true rfl, Nat.le_of_ble_eq_true rfl, Nat.le_of_ble_eq_true rfl, Nat.le_of_ble_eq_true rfl⟩ rfl ?_
  refine gb_w (show _ = (pre ++ (.inr (8, [.ref (κ.2.1 + (o + 1)), .ref (κ.2.1 + (o + 3)), .null]) :: ((([] ++ blkX7 κ (o + 1) 24 0) ++ blkX7 κ (o + 3) 96 0) ++ blkX7 κ (o + 5) 96 0))) from List.append_assoc _ _ _) ?_
  refine gb_putF (q := 46) (k := 2) fX8_23 wFlRX8_23 gft8 (gDec iX8_init_ok 22 rfl) (gB_at0 ho) rfl rfl rfl rfl rfl (Nat.le_of_ble_eq_true rfl) rfl ?_
  refine gb_w (show _ = (pre ++ (.inr (8, [.ref (κ.2.1 + (o + 1)), .ref (κ.2.1 + (o + 3)), .ref (κ.2.1 + (o + 5))]) :: ((([] ++ blkX7 κ (o + 1) 24 0) ++ blkX7 κ (o + 3) 96 0) ++ blkX7 κ (o + 5) 96 0))) from gB_set0 ho) ?_
  exact gb_ret (gDec iX8_init_ok 23 rfl) rfl rfl

def iX1_init : List (Nat × Instr × Nat) := [(0, .aload_n 0, 1), (1, .invokespecial 3, 3), (4, .aload_n 0, 1), (5, .new 9, 3), (8, .dup, 1), (9, .invokespecial 11, 3), (12, .putfield 12, 3), (15, .aload_n 0, 1), (16, .new 18, 3), (19, .dup, 1), (20, .invokespecial 20, 3), (23, .putfield 21, 3), (26, .aload_n 0, 1), (27, .new 25, 3), (30, .dup, 1), (31, .invokespecial 27, 3), (34, .putfield 28, 3), (37, .aload_n 0, 1), (38, .new 32, 3), (41, .dup, 1), (42, .invokespecial 34, 3), (45, .putfield 35, 3), (48, .aload_n 0, 1), (49, .iconst 0, 1), (50, .putfield 39, 3), (53, .aload_n 0, 1), (54, .sipush 250, 3), (57, .putfield 43, 3), (60, .return_, 1)]
theorem iX1_init_ok : gDecs mX1_init iX1_init := by decide +kernel

theorem wObRX1_3 : gOI RX1 3 := ⟨⟨gI1 (List.mem_of_getElem? (i := 40) rfl), rfl⟩, ⟨gI1 (List.mem_of_getElem? (i := 33) rfl), rfl⟩, ⟨gI1 (List.mem_of_getElem? (i := 34) rfl), rfl⟩⟩
theorem wClRX1_9 : gH (.classLink RX1 9 RX5) := ⟨gI1 (List.mem_of_getElem? (i := 41) rfl), rfl⟩
theorem wInRX5 : gH (.instantiable RX5 6) := ⟨gI1 (List.mem_of_getElem? (i := 42) rfl), rfl⟩
theorem wIiRX5 : gH (.initialized RX5) := ⟨gI1 (List.mem_of_getElem? (i := 3) rfl), rfl⟩
theorem wDfX5 : ∀ j, j < 6 → defaultValue (tyX5 j) = vp_V [.null, .null, .null, .null, .null, .int 0] j := by decide +kernel
theorem wIbX5 : gIB mX5_init 0 := ⟨rfl, ⟨gI1 (List.mem_of_getElem? (i := 44) rfl), rfl⟩, ⟨gI1 (List.mem_of_getElem? (i := 3) rfl), rfl⟩, ⟨gI1 (List.mem_of_getElem? (i := 45) rfl), rfl⟩, ⟨⟨by decide +kernel, by decide +kernel, by decide +kernel⟩, by decide⟩, rfl, rfl⟩
theorem wKiRX1_11 : gIN RX1 11 "TypeDesigner" mX5_init 0 := ⟨⟨gI1 (List.mem_of_getElem? (i := 43) rfl), rfl⟩, wIbX5⟩
theorem wFlRX1_12 : gH (.fieldLink RX1 12 RX1 "outlines" "LTypeDesigner$Outlines;") := ⟨gI1 (List.mem_of_getElem? (i := 140) rfl), rfl⟩
theorem wClRX1_18 : gH (.classLink RX1 18 RX0) := ⟨gI1 (List.mem_of_getElem? (i := 77) rfl), rfl⟩
theorem wInRX0 : gH (.instantiable RX0 3) := ⟨gI1 (List.mem_of_getElem? (i := 78) rfl), rfl⟩
theorem wIiRX0 : gH (.initialized RX0) := ⟨gI1 (List.mem_of_getElem? (i := 5) rfl), rfl⟩
theorem wDfX0 : ∀ j, j < 3 → defaultValue (tyX0 j) = vp_V [.null, .null, .null] j := by decide +kernel
theorem wIbX0 : gIB mX0_init 0 := ⟨rfl, ⟨gI1 (List.mem_of_getElem? (i := 80) rfl), rfl⟩, ⟨gI1 (List.mem_of_getElem? (i := 5) rfl), rfl⟩, ⟨gI1 (List.mem_of_getElem? (i := 81) rfl), rfl⟩, ⟨⟨by decide +kernel, by decide +kernel, by decide +kernel⟩, by decide⟩, rfl, rfl⟩
theorem wKiRX1_20 : gIN RX1 20 "TypeDesigner" mX0_init 0 := ⟨⟨gI1 (List.mem_of_getElem? (i := 79) rfl), rfl⟩, wIbX0⟩
theorem wFlRX1_21 : gH (.fieldLink RX1 21 RX1 "bearings" "LTypeDesigner$Bearings;") := ⟨gI1 (List.mem_of_getElem? (i := 142) rfl), rfl⟩
theorem wClRX1_25 : gH (.classLink RX1 25 RX4) := ⟨gI1 (List.mem_of_getElem? (i := 95) rfl), rfl⟩
theorem wInRX4 : gH (.instantiable RX4 6) := ⟨gI1 (List.mem_of_getElem? (i := 96) rfl), rfl⟩
theorem wIiRX4 : gH (.initialized RX4) := ⟨gI1 (List.mem_of_getElem? (i := 6) rfl), rfl⟩
theorem wDfX4 : ∀ j, j < 6 → defaultValue (tyX4 j) = vp_V [.null, .null, .null, .null, .int 0, .int 0] j := by decide +kernel
theorem wIbX4 : gIB mX4_init 0 := ⟨rfl, ⟨gI1 (List.mem_of_getElem? (i := 98) rfl), rfl⟩, ⟨gI1 (List.mem_of_getElem? (i := 6) rfl), rfl⟩, ⟨gI1 (List.mem_of_getElem? (i := 99) rfl), rfl⟩, ⟨⟨by decide +kernel, by decide +kernel, by decide +kernel⟩, by decide⟩, rfl, rfl⟩
theorem wKiRX1_27 : gIN RX1 27 "TypeDesigner" mX4_init 0 := ⟨⟨gI1 (List.mem_of_getElem? (i := 97) rfl), rfl⟩, wIbX4⟩
theorem wFlRX1_28 : gH (.fieldLink RX1 28 RX1 "kerning" "LTypeDesigner$Kerning;") := ⟨gI1 (List.mem_of_getElem? (i := 144) rfl), rfl⟩
theorem wClRX1_32 : gH (.classLink RX1 32 RX8) := ⟨gI1 (List.mem_of_getElem? (i := 122) rfl), rfl⟩
theorem wInRX8 : gH (.instantiable RX8 3) := ⟨gI1 (List.mem_of_getElem? (i := 123) rfl), rfl⟩
theorem wIiRX8 : gH (.initialized RX8) := ⟨gI1 (List.mem_of_getElem? (i := 7) rfl), rfl⟩
theorem wDfX8 : ∀ j, j < 3 → defaultValue (tyX8 j) = vp_V [.null, .null, .null] j := by decide +kernel
theorem wIbX8 : gIB mX8_init 0 := ⟨rfl, ⟨gI1 (List.mem_of_getElem? (i := 125) rfl), rfl⟩, ⟨gI1 (List.mem_of_getElem? (i := 7) rfl), rfl⟩, ⟨gI1 (List.mem_of_getElem? (i := 126) rfl), rfl⟩, ⟨⟨by decide +kernel, by decide +kernel, by decide +kernel⟩, by decide⟩, rfl, rfl⟩
theorem wKiRX1_34 : gIN RX1 34 "TypeDesigner" mX8_init 0 := ⟨⟨gI1 (List.mem_of_getElem? (i := 124) rfl), rfl⟩, wIbX8⟩
theorem wFlRX1_35 : gH (.fieldLink RX1 35 RX1 "stems" "LTypeDesigner$Stems;") := ⟨gI1 (List.mem_of_getElem? (i := 147) rfl), rfl⟩
theorem wFlRX1_39 : gH (.fieldLink RX1 39 RX1 "tracking" "I") := ⟨gI1 (List.mem_of_getElem? (i := 149) rfl), rfl⟩
theorem wFlRX1_43 : gH (.fieldLink RX1 43 RX1 "space" "I") := ⟨gI1 (List.mem_of_getElem? (i := 152) rfl), rfl⟩
def blkX1 (κ : gK) (o : Nat) : List va_E := .inr (1, [.ref (κ.2.1 + (o + 1)), .ref (κ.2.1 + (o + 12)), .ref (κ.2.1 + (o + 19)), .ref (κ.2.1 + (o + 28)), .int 0, .int 250]) :: (((([] ++ blkX5 κ (o + 1)) ++ blkX0 κ (o + 12)) ++ blkX4 κ (o + 19)) ++ blkX8 κ (o + 28))
theorem blkX1_len (κ : gK) (o : Nat) : (blkX1 κ o).length = 35 := rfl
set_option maxHeartbeats 4000000 in
set_option maxRecDepth 100000 in
theorem cb_X1 {κ : gK} {pre : List va_E} {o : Nat} (ho : pre.length = o) : gCb κ mX1_init 3 [.ref (κ.2.1 + o)] (pre ++ [.inr (1, [.null, .null, .null, .null, .int 0, .int 0])]) (pre ++ blkX1 κ o) 34 2901 := by
  refine cb_of (by decide +kernel) rfl (Nat.le_of_ble_eq_true rfl) rfl ?_
  refine gb_aload_n (q := 1) (gDec iX1_init_ok 0 rfl) rfl rfl rfl ?_
  refine gb_obj (q := 4) wObRX1_3 (gDec iX1_init_ok 1 rfl) rfl (Nat.le_of_ble_eq_true rfl) (Nat.le_of_ble_eq_true rfl) rfl ?_
  refine gb_aload_n (q := 5) (gDec iX1_init_ok 2 rfl) rfl rfl rfl ?_
  refine gb_new (q := 8) (o := o + 1) (ci := 5) (fs := [.null, .null, .null, .null, .null, .int 0]) (gB_len ho (by (simp only [List.length_cons, List.length_append, List.length_nil, blkX7_len, blkX0_len, blkX4_len, blkX5_len, blkX8_len]) <;> omega)) rfl gin5 gft5 wClRX1_9 wInRX5 wIiRX5 wDfX5 (Nat.le_of_ble_eq_true rfl) (Nat.le_of_ble_eq_true rfl) (gDec iX1_init_ok 3 rfl) rfl ?_
  refine gb_dup (q := 9) (gDec iX1_init_ok 4 rfl) rfl rfl ?_
  refine gb_callN (q := 12) (cs2 := 11) (sl2 := 1859) wKiRX1_11 (cb_X5 (κ := κ) (pre := (pre ++ (.inr (1, [.null, .null, .null, .null, .int 0, .int 0]) :: []))) (o := o + 1) (gB_len ho (by (simp only [List.length_cons, List.length_append, List.length_nil, blkX7_len, blkX0_len, blkX4_len, blkX5_len, blkX8_len]) <;> omega))) (gDec iX1_init_ok 5 rfl) rfl rfl (Nat.le_of_ble_eq_true rfl) rfl rfl ⟨Nat.le_of_ble_eq_true rfl, Nat.le_of_ble_eq_true rfl, Nat.le_of_ble_eq_true rfl, Nat.le_of_ble_eq_true rfl⟩ rfl ?_
  refine gb_w (show _ = (pre ++ (.inr (1, [.null, .null, .null, .null, .int 0, .int 0]) :: ([] ++ blkX5 κ (o + 1)))) from List.append_assoc _ _ _) ?_
  refine gb_putF (q := 15) (k := 0) fX1_12 wFlRX1_12 gft1 (gDec iX1_init_ok 6 rfl) (gB_at0 ho) rfl rfl rfl rfl rfl (Nat.le_of_ble_eq_true rfl) rfl ?_
  refine gb_w (show _ = (pre ++ (.inr (1, [.ref (κ.2.1 + (o + 1)), .null, .null, .null, .int 0, .int 0]) :: ([] ++ blkX5 κ (o + 1)))) from gB_set0 ho) ?_
  refine gb_aload_n (q := 16) (gDec iX1_init_ok 7 rfl) rfl rfl rfl ?_
  refine gb_new (q := 19) (o := o + 12) (ci := 0) (fs := [.null, .null, .null]) (gB_len ho (by (simp only [List.length_cons, List.length_append, List.length_nil, blkX7_len, blkX0_len, blkX4_len, blkX5_len, blkX8_len]) <;> omega)) rfl gin0 gft0 wClRX1_18 wInRX0 wIiRX0 wDfX0 (Nat.le_of_ble_eq_true rfl) (Nat.le_of_ble_eq_true rfl) (gDec iX1_init_ok 8 rfl) rfl ?_
  refine gb_dup (q := 20) (gDec iX1_init_ok 9 rfl) rfl rfl ?_
  refine gb_callN (q := 23) (cs2 := 18) (sl2 := 2009) wKiRX1_20 (cb_X0 (κ := κ) (pre := (pre ++ (.inr (1, [.ref (κ.2.1 + (o + 1)), .null, .null, .null, .int 0, .int 0]) :: ([] ++ blkX5 κ (o + 1))))) (o := o + 12) (gB_len ho (by (simp only [List.length_cons, List.length_append, List.length_nil, blkX7_len, blkX0_len, blkX4_len, blkX5_len, blkX8_len]) <;> omega))) (gDec iX1_init_ok 10 rfl) rfl rfl (Nat.le_of_ble_eq_true rfl) rfl rfl ⟨Nat.le_of_ble_eq_true rfl, Nat.le_of_ble_eq_true rfl, Nat.le_of_ble_eq_true rfl, Nat.le_of_ble_eq_true rfl⟩ rfl ?_
  refine gb_w (show _ = (pre ++ (.inr (1, [.ref (κ.2.1 + (o + 1)), .null, .null, .null, .int 0, .int 0]) :: (([] ++ blkX5 κ (o + 1)) ++ blkX0 κ (o + 12)))) from List.append_assoc _ _ _) ?_
  refine gb_putF (q := 26) (k := 1) fX1_21 wFlRX1_21 gft1 (gDec iX1_init_ok 11 rfl) (gB_at0 ho) rfl rfl rfl rfl rfl (Nat.le_of_ble_eq_true rfl) rfl ?_
  refine gb_w (show _ = (pre ++ (.inr (1, [.ref (κ.2.1 + (o + 1)), .ref (κ.2.1 + (o + 12)), .null, .null, .int 0, .int 0]) :: (([] ++ blkX5 κ (o + 1)) ++ blkX0 κ (o + 12)))) from gB_set0 ho) ?_
  refine gb_aload_n (q := 27) (gDec iX1_init_ok 12 rfl) rfl rfl rfl ?_
  refine gb_new (q := 30) (o := o + 19) (ci := 4) (fs := [.null, .null, .null, .null, .int 0, .int 0]) (gB_len ho (by (simp only [List.length_cons, List.length_append, List.length_nil, blkX7_len, blkX0_len, blkX4_len, blkX5_len, blkX8_len]) <;> omega)) rfl gin4 gft4 wClRX1_25 wInRX4 wIiRX4 wDfX4 (Nat.le_of_ble_eq_true rfl) (Nat.le_of_ble_eq_true rfl) (gDec iX1_init_ok 13 rfl) rfl ?_
  refine gb_dup (q := 31) (gDec iX1_init_ok 14 rfl) rfl rfl ?_
  refine gb_callN (q := 34) (cs2 := 27) (sl2 := 2679) wKiRX1_27 (cb_X4 (κ := κ) (pre := (pre ++ (.inr (1, [.ref (κ.2.1 + (o + 1)), .ref (κ.2.1 + (o + 12)), .null, .null, .int 0, .int 0]) :: (([] ++ blkX5 κ (o + 1)) ++ blkX0 κ (o + 12))))) (o := o + 19) (gB_len ho (by (simp only [List.length_cons, List.length_append, List.length_nil, blkX7_len, blkX0_len, blkX4_len, blkX5_len, blkX8_len]) <;> omega))) (gDec iX1_init_ok 15 rfl) rfl rfl (Nat.le_of_ble_eq_true rfl) rfl rfl ⟨Nat.le_of_ble_eq_true rfl, Nat.le_of_ble_eq_true rfl, Nat.le_of_ble_eq_true rfl, Nat.le_of_ble_eq_true rfl⟩ rfl ?_
  refine gb_w (show _ = (pre ++ (.inr (1, [.ref (κ.2.1 + (o + 1)), .ref (κ.2.1 + (o + 12)), .null, .null, .int 0, .int 0]) :: ((([] ++ blkX5 κ (o + 1)) ++ blkX0 κ (o + 12)) ++ blkX4 κ (o + 19)))) from List.append_assoc _ _ _) ?_
  refine gb_putF (q := 37) (k := 2) fX1_28 wFlRX1_28 gft1 (gDec iX1_init_ok 16 rfl) (gB_at0 ho) rfl rfl rfl rfl rfl (Nat.le_of_ble_eq_true rfl) rfl ?_
  refine gb_w (show _ = (pre ++ (.inr (1, [.ref (κ.2.1 + (o + 1)), .ref (κ.2.1 + (o + 12)), .ref (κ.2.1 + (o + 19)), .null, .int 0, .int 0]) :: ((([] ++ blkX5 κ (o + 1)) ++ blkX0 κ (o + 12)) ++ blkX4 κ (o + 19)))) from gB_set0 ho) ?_
  refine gb_aload_n (q := 38) (gDec iX1_init_ok 17 rfl) rfl rfl rfl ?_
  refine gb_new (q := 41) (o := o + 28) (ci := 8) (fs := [.null, .null, .null]) (gB_len ho (by (simp only [List.length_cons, List.length_append, List.length_nil, blkX7_len, blkX0_len, blkX4_len, blkX5_len, blkX8_len]) <;> omega)) rfl gin8 gft8 wClRX1_32 wInRX8 wIiRX8 wDfX8 (Nat.le_of_ble_eq_true rfl) (Nat.le_of_ble_eq_true rfl) (gDec iX1_init_ok 18 rfl) rfl ?_
  refine gb_dup (q := 42) (gDec iX1_init_ok 19 rfl) rfl rfl ?_
  refine gb_callN (q := 45) (cs2 := 34) (sl2 := 2901) wKiRX1_34 (cb_X8 (κ := κ) (pre := (pre ++ (.inr (1, [.ref (κ.2.1 + (o + 1)), .ref (κ.2.1 + (o + 12)), .ref (κ.2.1 + (o + 19)), .null, .int 0, .int 0]) :: ((([] ++ blkX5 κ (o + 1)) ++ blkX0 κ (o + 12)) ++ blkX4 κ (o + 19))))) (o := o + 28) (gB_len ho (by (simp only [List.length_cons, List.length_append, List.length_nil, blkX7_len, blkX0_len, blkX4_len, blkX5_len, blkX8_len]) <;> omega))) (gDec iX1_init_ok 20 rfl) rfl rfl (Nat.le_of_ble_eq_true rfl) rfl rfl ⟨Nat.le_of_ble_eq_true rfl, Nat.le_of_ble_eq_true rfl, Nat.le_of_ble_eq_true rfl, Nat.le_of_ble_eq_true rfl⟩ rfl ?_
  refine gb_w (show _ = (pre ++ (.inr (1, [.ref (κ.2.1 + (o + 1)), .ref (κ.2.1 + (o + 12)), .ref (κ.2.1 + (o + 19)), .null, .int 0, .int 0]) :: (((([] ++ blkX5 κ (o + 1)) ++ blkX0 κ (o + 12)) ++ blkX4 κ (o + 19)) ++ blkX8 κ (o + 28)))) from List.append_assoc _ _ _) ?_
  refine gb_putF (q := 48) (k := 3) fX1_35 wFlRX1_35 gft1 (gDec iX1_init_ok 21 rfl) (gB_at0 ho) rfl rfl rfl rfl rfl (Nat.le_of_ble_eq_true rfl) rfl ?_
  refine gb_w (show _ = (pre ++ (.inr (1, [.ref (κ.2.1 + (o + 1)), .ref (κ.2.1 + (o + 12)), .ref (κ.2.1 + (o + 19)), .ref (κ.2.1 + (o + 28)), .int 0, .int 0]) :: (((([] ++ blkX5 κ (o + 1)) ++ blkX0 κ (o + 12)) ++ blkX4 κ (o + 19)) ++ blkX8 κ (o + 28)))) from gB_set0 ho) ?_
  refine gb_aload_n (q := 49) (gDec iX1_init_ok 22 rfl) rfl rfl rfl ?_
  refine gb_iconst (v := 0) (q := 50) (gDec iX1_init_ok 23 rfl) (by decide) rfl ?_
  refine gb_put (q := 53) (k := 4) fX1_39 wFlRX1_39 gft1 (gDec iX1_init_ok 24 rfl) (gB_at0 ho) rfl rfl rfl (Nat.le_of_ble_eq_true rfl) rfl ?_
  refine gb_w (show _ = (pre ++ (.inr (1, [.ref (κ.2.1 + (o + 1)), .ref (κ.2.1 + (o + 12)), .ref (κ.2.1 + (o + 19)), .ref (κ.2.1 + (o + 28)), .int 0, .int 0]) :: (((([] ++ blkX5 κ (o + 1)) ++ blkX0 κ (o + 12)) ++ blkX4 κ (o + 19)) ++ blkX8 κ (o + 28)))) from gB_set0 ho) ?_
  refine gb_aload_n (q := 54) (gDec iX1_init_ok 25 rfl) rfl rfl rfl ?_
  refine gb_sipush (v := 250) (q := 57) (gDec iX1_init_ok 26 rfl) (by decide) rfl ?_
  refine gb_put (q := 60) (k := 5) fX1_43 wFlRX1_43 gft1 (gDec iX1_init_ok 27 rfl) (gB_at0 ho) rfl rfl rfl (Nat.le_of_ble_eq_true rfl) rfl ?_
  refine gb_w (show _ = (pre ++ (.inr (1, [.ref (κ.2.1 + (o + 1)), .ref (κ.2.1 + (o + 12)), .ref (κ.2.1 + (o + 19)), .ref (κ.2.1 + (o + 28)), .int 0, .int 250]) :: (((([] ++ blkX5 κ (o + 1)) ++ blkX0 κ (o + 12)) ++ blkX4 κ (o + 19)) ++ blkX8 κ (o + 28)))) from gB_set0 ho) ?_
  exact gb_ret (gDec iX1_init_ok 28 rfl) rfl rfl

def iX9_init : List (Nat × Instr × Nat) := [(0, .aload_n 0, 1), (1, .invokespecial 3, 3), (4, .aload_n 0, 1), (5, .new 9, 3), (8, .dup, 1), (9, .bipush 60, 2), (11, .iconst 0, 1), (12, .invokespecial 11, 3), (15, .putfield 14, 3), (18, .aload_n 0, 1), (19, .iconst 0, 1), (20, .putfield 20, 3), (23, .return_, 1)]
theorem iX9_init_ok : gDecs mX9_init iX9_init := by decide +kernel

theorem wObRX9_3 : gOI RX9 3 := ⟨⟨gI1 (List.mem_of_getElem? (i := 192) rfl), rfl⟩, ⟨gI1 (List.mem_of_getElem? (i := 33) rfl), rfl⟩, ⟨gI1 (List.mem_of_getElem? (i := 34) rfl), rfl⟩⟩
theorem wClRX9_9 : gH (.classLink RX9 9 RX7) := ⟨gI1 (List.mem_of_getElem? (i := 193) rfl), rfl⟩
theorem wKiRX9_11 : gIL RX9 11 mX7_init 2 := ⟨⟨gI1 (List.mem_of_getElem? (i := 194) rfl), rfl⟩, wIbX7⟩
theorem wFlRX9_14 : gH (.fieldLink RX9 14 RX9 "signs" "LTypeDesigner$Row;") := ⟨gI1 (List.mem_of_getElem? (i := 195) rfl), rfl⟩
theorem wFlRX9_20 : gH (.fieldLink RX9 20 RX9 "length" "I") := ⟨gI1 (List.mem_of_getElem? (i := 196) rfl), rfl⟩
def blkX9 (κ : gK) (o : Nat) : List va_E := .inr (9, [.ref (κ.2.1 + (o + 1)), .int 0]) :: ([] ++ blkX7 κ (o + 1) 60 0)
theorem blkX9_len (κ : gK) (o : Nat) : (blkX9 κ o).length = 3 := rfl
set_option maxHeartbeats 4000000 in
set_option maxRecDepth 100000 in
theorem cb_X9 {κ : gK} {pre : List va_E} {o : Nat} (ho : pre.length = o) : gCb κ mX9_init 2 [.ref (κ.2.1 + o)] (pre ++ [.inr (9, [.null, .int 0])]) (pre ++ blkX9 κ o) 2 61 := by
  refine cb_of (by decide +kernel) rfl (Nat.le_of_ble_eq_true rfl) rfl ?_
  refine gb_aload_n (q := 1) (gDec iX9_init_ok 0 rfl) rfl rfl rfl ?_
  refine gb_obj (q := 4) wObRX9_3 (gDec iX9_init_ok 1 rfl) rfl (Nat.le_of_ble_eq_true rfl) (Nat.le_of_ble_eq_true rfl) rfl ?_
  refine gb_aload_n (q := 5) (gDec iX9_init_ok 2 rfl) rfl rfl rfl ?_
  refine gb_new (q := 8) (o := o + 1) (ci := 7) (fs := [.null]) (gB_len ho (by (simp only [List.length_cons, List.length_append, List.length_nil, blkX7_len, blkX0_len, blkX1_len, blkX4_len, blkX5_len, blkX8_len]) <;> omega)) rfl gin7 gft7 wClRX9_9 wInRX7 wIiRX7 wDfX7 (Nat.le_of_ble_eq_true rfl) (Nat.le_of_ble_eq_true rfl) (gDec iX9_init_ok 3 rfl) rfl ?_
  refine gb_dup (q := 9) (gDec iX9_init_ok 4 rfl) rfl rfl ?_
  refine gb_bipush (v := nI 60) (q := 11) (gDec iX9_init_ok 5 rfl) (by decide) rfl ?_
  refine gb_iconst (v := 0) (q := 12) (gDec iX9_init_ok 6 rfl) (by decide) rfl ?_
  refine gb_callI (q := 15) (cs2 := 2) (sl2 := 61) wKiRX9_11 (cb_X7 (κ := κ) (pre := (pre ++ (.inr (9, [.null, .int 0]) :: []))) (o := o + 1) (n := 60) (v := 0) (gB_len ho (by (simp only [List.length_cons, List.length_append, List.length_nil, blkX7_len, blkX0_len, blkX1_len, blkX4_len, blkX5_len, blkX8_len]) <;> omega)) (by decide) (by decide)) (gDec iX9_init_ok 7 rfl) rfl rfl (Nat.le_of_ble_eq_true rfl) rfl rfl ⟨Nat.le_of_ble_eq_true rfl, Nat.le_of_ble_eq_true rfl, Nat.le_of_ble_eq_true rfl, Nat.le_of_ble_eq_true rfl⟩ rfl ?_
  refine gb_w (show _ = (pre ++ (.inr (9, [.null, .int 0]) :: ([] ++ blkX7 κ (o + 1) 60 0))) from List.append_assoc _ _ _) ?_
  refine gb_putF (q := 18) (k := 0) fX9_14 wFlRX9_14 gft9 (gDec iX9_init_ok 8 rfl) (gB_at0 ho) rfl rfl rfl rfl rfl (Nat.le_of_ble_eq_true rfl) rfl ?_
  refine gb_w (show _ = (pre ++ (.inr (9, [.ref (κ.2.1 + (o + 1)), .int 0]) :: ([] ++ blkX7 κ (o + 1) 60 0))) from gB_set0 ho) ?_
  refine gb_aload_n (q := 19) (gDec iX9_init_ok 9 rfl) rfl rfl rfl ?_
  refine gb_iconst (v := 0) (q := 20) (gDec iX9_init_ok 10 rfl) (by decide) rfl ?_
  refine gb_put (q := 23) (k := 1) fX9_20 wFlRX9_20 gft9 (gDec iX9_init_ok 11 rfl) (gB_at0 ho) rfl rfl rfl (Nat.le_of_ble_eq_true rfl) rfl ?_
  refine gb_w (show _ = (pre ++ (.inr (9, [.ref (κ.2.1 + (o + 1)), .int 0]) :: ([] ++ blkX7 κ (o + 1) 60 0))) from gB_set0 ho) ?_
  exact gb_ret (gDec iX9_init_ok 12 rfl) rfl rfl

def iX2_init : List (Nat × Instr × Nat) := [(0, .aload_n 0, 1), (1, .invokespecial 3, 3), (4, .aload_n 0, 1), (5, .new 9, 3), (8, .dup, 1), (9, .bipush 60, 2), (11, .iconst 0, 1), (12, .invokespecial 11, 3), (15, .putfield 14, 3), (18, .aload_n 0, 1), (19, .new 9, 3), (22, .dup, 1), (23, .bipush 60, 2), (25, .iconst 0, 1), (26, .invokespecial 11, 3), (29, .putfield 20, 3), (32, .aload_n 0, 1), (33, .new 9, 3), (36, .dup, 1), (37, .bipush 60, 2), (39, .iconst 0, 1), (40, .invokespecial 11, 3), (43, .putfield 23, 3), (46, .aload_n 0, 1), (47, .iconst 0, 1), (48, .putfield 26, 3), (51, .aload_n 0, 1), (52, .iconst 0, 1), (53, .putfield 30, 3), (56, .aload_n 0, 1), (57, .iconst 0, 1), (58, .putfield 33, 3), (61, .aload_n 0, 1), (62, .iconst 0, 1), (63, .putfield 36, 3), (66, .aload_n 0, 1), (67, .iconst 0, 1), (68, .putfield 39, 3), (71, .aload_n 0, 1), (72, .iconst 0, 1), (73, .putfield 42, 3), (76, .aload_n 0, 1), (77, .iconst 0, 1), (78, .putfield 46, 3), (81, .aload_n 0, 1), (82, .iconst 0, 1), (83, .putfield 49, 3), (86, .aload_n 0, 1), (87, .iconst 0, 1), (88, .putfield 52, 3), (91, .return_, 1)]
theorem iX2_init_ok : gDecs mX2_init iX2_init := by decide +kernel

theorem wObRX2_3 : gOI RX2 3 := ⟨⟨gI1 (List.mem_of_getElem? (i := 207) rfl), rfl⟩, ⟨gI1 (List.mem_of_getElem? (i := 33) rfl), rfl⟩, ⟨gI1 (List.mem_of_getElem? (i := 34) rfl), rfl⟩⟩
theorem wClRX2_9 : gH (.classLink RX2 9 RX7) := ⟨gI1 (List.mem_of_getElem? (i := 208) rfl), rfl⟩
theorem wKiRX2_11 : gIL RX2 11 mX7_init 2 := ⟨⟨gI1 (List.mem_of_getElem? (i := 209) rfl), rfl⟩, wIbX7⟩
theorem wFlRX2_14 : gH (.fieldLink RX2 14 RX2 "xs" "LTypeDesigner$Row;") := ⟨gI1 (List.mem_of_getElem? (i := 210) rfl), rfl⟩
theorem wFlRX2_20 : gH (.fieldLink RX2 20 RX2 "ys" "LTypeDesigner$Row;") := ⟨gI1 (List.mem_of_getElem? (i := 211) rfl), rfl⟩
theorem wFlRX2_23 : gH (.fieldLink RX2 23 RX2 "pointCounts" "LTypeDesigner$Row;") := ⟨gI1 (List.mem_of_getElem? (i := 212) rfl), rfl⟩
theorem wFlRX2_26 : gH (.fieldLink RX2 26 RX2 "state" "I") := ⟨gI1 (List.mem_of_getElem? (i := 213) rfl), rfl⟩
theorem wFlRX2_30 : gH (.fieldLink RX2 30 RX2 "code" "I") := ⟨gI1 (List.mem_of_getElem? (i := 214) rfl), rfl⟩
theorem wFlRX2_33 : gH (.fieldLink RX2 33 RX2 "contours" "I") := ⟨gI1 (List.mem_of_getElem? (i := 215) rfl), rfl⟩
theorem wFlRX2_36 : gH (.fieldLink RX2 36 RX2 "points" "I") := ⟨gI1 (List.mem_of_getElem? (i := 216) rfl), rfl⟩
theorem wFlRX2_39 : gH (.fieldLink RX2 39 RX2 "contourPoints" "I") := ⟨gI1 (List.mem_of_getElem? (i := 217) rfl), rfl⟩
theorem wFlRX2_42 : gH (.fieldLink RX2 42 RX2 "isY" "Z") := ⟨gI1 (List.mem_of_getElem? (i := 218) rfl), rfl⟩
theorem wFlRX2_46 : gH (.fieldLink RX2 46 RX2 "isNegative" "Z") := ⟨gI1 (List.mem_of_getElem? (i := 219) rfl), rfl⟩
theorem wFlRX2_49 : gH (.fieldLink RX2 49 RX2 "digits" "I") := ⟨gI1 (List.mem_of_getElem? (i := 220) rfl), rfl⟩
theorem wFlRX2_52 : gH (.fieldLink RX2 52 RX2 "value" "I") := ⟨gI1 (List.mem_of_getElem? (i := 221) rfl), rfl⟩
def blkX2 (κ : gK) (o : Nat) : List va_E := .inr (2, [.ref (κ.2.1 + (o + 1)), .ref (κ.2.1 + (o + 3)), .ref (κ.2.1 + (o + 5)), .int 0, .int 0, .int 0, .int 0, .int 0, .int 0, .int 0, .int 0, .int 0]) :: ((([] ++ blkX7 κ (o + 1) 60 0) ++ blkX7 κ (o + 3) 60 0) ++ blkX7 κ (o + 5) 60 0)
theorem blkX2_len (κ : gK) (o : Nat) : (blkX2 κ o).length = 7 := rfl
set_option maxHeartbeats 4000000 in
set_option maxRecDepth 100000 in
theorem cb_X2 {κ : gK} {pre : List va_E} {o : Nat} (ho : pre.length = o) : gCb κ mX2_init 2 [.ref (κ.2.1 + o)] (pre ++ [.inr (2, [.null, .null, .null, .int 0, .int 0, .int 0, .int 0, .int 0, .int 0, .int 0, .int 0, .int 0])]) (pre ++ blkX2 κ o) 6 183 := by
  refine cb_of (by decide +kernel) rfl (Nat.le_of_ble_eq_true rfl) rfl ?_
  refine gb_aload_n (q := 1) (gDec iX2_init_ok 0 rfl) rfl rfl rfl ?_
  refine gb_obj (q := 4) wObRX2_3 (gDec iX2_init_ok 1 rfl) rfl (Nat.le_of_ble_eq_true rfl) (Nat.le_of_ble_eq_true rfl) rfl ?_
  refine gb_aload_n (q := 5) (gDec iX2_init_ok 2 rfl) rfl rfl rfl ?_
  refine gb_new (q := 8) (o := o + 1) (ci := 7) (fs := [.null]) (gB_len ho (by (simp only [List.length_cons, List.length_append, List.length_nil, blkX7_len, blkX0_len, blkX1_len, blkX4_len, blkX5_len, blkX8_len, blkX9_len]) <;> omega)) rfl gin7 gft7 wClRX2_9 wInRX7 wIiRX7 wDfX7 (Nat.le_of_ble_eq_true rfl) (Nat.le_of_ble_eq_true rfl) (gDec iX2_init_ok 3 rfl) rfl ?_
  refine gb_dup (q := 9) (gDec iX2_init_ok 4 rfl) rfl rfl ?_
  refine gb_bipush (v := nI 60) (q := 11) (gDec iX2_init_ok 5 rfl) (by decide) rfl ?_
  refine gb_iconst (v := 0) (q := 12) (gDec iX2_init_ok 6 rfl) (by decide) rfl ?_
  refine gb_callI (q := 15) (cs2 := 2) (sl2 := 61) wKiRX2_11 (cb_X7 (κ := κ) (pre := (pre ++ (.inr (2, [.null, .null, .null, .int 0, .int 0, .int 0, .int 0, .int 0, .int 0, .int 0, .int 0, .int 0]) :: []))) (o := o + 1) (n := 60) (v := 0) (gB_len ho (by (simp only [List.length_cons, List.length_append, List.length_nil, blkX7_len, blkX0_len, blkX1_len, blkX4_len, blkX5_len, blkX8_len, blkX9_len]) <;> omega)) (by decide) (by decide)) (gDec iX2_init_ok 7 rfl) rfl rfl (Nat.le_of_ble_eq_true rfl) rfl rfl ⟨Nat.le_of_ble_eq_true rfl, Nat.le_of_ble_eq_true rfl, Nat.le_of_ble_eq_true rfl, Nat.le_of_ble_eq_true rfl⟩ rfl ?_
  refine gb_w (show _ = (pre ++ (.inr (2, [.null, .null, .null, .int 0, .int 0, .int 0, .int 0, .int 0, .int 0, .int 0, .int 0, .int 0]) :: ([] ++ blkX7 κ (o + 1) 60 0))) from List.append_assoc _ _ _) ?_
  refine gb_putF (q := 18) (k := 0) fX2_14 wFlRX2_14 gft2 (gDec iX2_init_ok 8 rfl) (gB_at0 ho) rfl rfl rfl rfl rfl (Nat.le_of_ble_eq_true rfl) rfl ?_
  refine gb_w (show _ = (pre ++ (.inr (2, [.ref (κ.2.1 + (o + 1)), .null, .null, .int 0, .int 0, .int 0, .int 0, .int 0, .int 0, .int 0, .int 0, .int 0]) :: ([] ++ blkX7 κ (o + 1) 60 0))) from gB_set0 ho) ?_
  refine gb_aload_n (q := 19) (gDec iX2_init_ok 9 rfl) rfl rfl rfl ?_
  refine gb_new (q := 22) (o := o + 3) (ci := 7) (fs := [.null]) (gB_len ho (by (simp only [List.length_cons, List.length_append, List.length_nil, blkX7_len, blkX0_len, blkX1_len, blkX4_len, blkX5_len, blkX8_len, blkX9_len]) <;> omega)) rfl gin7 gft7 wClRX2_9 wInRX7 wIiRX7 wDfX7 (Nat.le_of_ble_eq_true rfl) (Nat.le_of_ble_eq_true rfl) (gDec iX2_init_ok 10 rfl) rfl ?_
  refine gb_dup (q := 23) (gDec iX2_init_ok 11 rfl) rfl rfl ?_
  refine gb_bipush (v := nI 60) (q := 25) (gDec iX2_init_ok 12 rfl) (by decide) rfl ?_
  refine gb_iconst (v := 0) (q := 26) (gDec iX2_init_ok 13 rfl) (by decide) rfl ?_
  refine gb_callI (q := 29) (cs2 := 4) (sl2 := 122) wKiRX2_11 (cb_X7 (κ := κ) (pre := (pre ++ (.inr (2, [.ref (κ.2.1 + (o + 1)), .null, .null, .int 0, .int 0, .int 0, .int 0, .int 0, .int 0, .int 0, .int 0, .int 0]) :: ([] ++ blkX7 κ (o + 1) 60 0)))) (o := o + 3) (n := 60) (v := 0) (gB_len ho (by (simp only [List.length_cons, List.length_append, List.length_nil, blkX7_len, blkX0_len, blkX1_len, blkX4_len, blkX5_len, blkX8_len, blkX9_len]) <;> omega)) (by decide) (by decide)) (gDec iX2_init_ok 14 rfl) rfl rfl (Nat.le_of_ble_eq_true rfl) rfl rfl ⟨Nat.le_of_ble_eq_true rfl, Nat.le_of_ble_eq_true rfl, Nat.le_of_ble_eq_true rfl, Nat.le_of_ble_eq_true rfl⟩ rfl ?_
  refine gb_w (show _ = (pre ++ (.inr (2, [.ref (κ.2.1 + (o + 1)), .null, .null, .int 0, .int 0, .int 0, .int 0, .int 0, .int 0, .int 0, .int 0, .int 0]) :: (([] ++ blkX7 κ (o + 1) 60 0) ++ blkX7 κ (o + 3) 60 0))) from List.append_assoc _ _ _) ?_
  refine gb_putF (q := 32) (k := 1) fX2_20 wFlRX2_20 gft2 (gDec iX2_init_ok 15 rfl) (gB_at0 ho) rfl rfl rfl rfl rfl (Nat.le_of_ble_eq_true rfl) rfl ?_
  refine gb_w (show _ = (pre ++ (.inr (2, [.ref (κ.2.1 + (o + 1)), .ref (κ.2.1 + (o + 3)), .null, .int 0, .int 0, .int 0, .int 0, .int 0, .int 0, .int 0, .int 0, .int 0]) :: (([] ++ blkX7 κ (o + 1) 60 0) ++ blkX7 κ (o + 3) 60 0))) from gB_set0 ho) ?_
  refine gb_aload_n (q := 33) (gDec iX2_init_ok 16 rfl) rfl rfl rfl ?_
  refine gb_new (q := 36) (o := o + 5) (ci := 7) (fs := [.null]) (gB_len ho (by (simp only [List.length_cons, List.length_append, List.length_nil, blkX7_len, blkX0_len, blkX1_len, blkX4_len, blkX5_len, blkX8_len, blkX9_len]) <;> omega)) rfl gin7 gft7 wClRX2_9 wInRX7 wIiRX7 wDfX7 (Nat.le_of_ble_eq_true rfl) (Nat.le_of_ble_eq_true rfl) (gDec iX2_init_ok 17 rfl) rfl ?_
  refine gb_dup (q := 37) (gDec iX2_init_ok 18 rfl) rfl rfl ?_
  refine gb_bipush (v := nI 60) (q := 39) (gDec iX2_init_ok 19 rfl) (by decide) rfl ?_
  refine gb_iconst (v := 0) (q := 40) (gDec iX2_init_ok 20 rfl) (by decide) rfl ?_
  refine gb_callI (q := 43) (cs2 := 6) (sl2 := 183) wKiRX2_11 (cb_X7 (κ := κ) (pre := (pre ++ (.inr (2, [.ref (κ.2.1 + (o + 1)), .ref (κ.2.1 + (o + 3)), .null, .int 0, .int 0, .int 0, .int 0, .int 0, .int 0, .int 0, .int 0, .int 0]) :: (([] ++ blkX7 κ (o + 1) 60 0) ++ blkX7 κ (o + 3) 60 0)))) (o := o + 5) (n := 60) (v := 0) (gB_len ho (by (simp only [List.length_cons, List.length_append, List.length_nil, blkX7_len, blkX0_len, blkX1_len, blkX4_len, blkX5_len, blkX8_len, blkX9_len]) <;> omega)) (by decide) (by decide)) (gDec iX2_init_ok 21 rfl) rfl rfl (Nat.le_of_ble_eq_true rfl) rfl rfl ⟨Nat.le_of_ble_eq_true rfl, Nat.le_of_ble_eq_true rfl, Nat.le_of_ble_eq_true rfl, Nat.le_of_ble_eq_true rfl⟩ rfl ?_
  refine gb_w (show _ = (pre ++ (.inr (2, [.ref (κ.2.1 + (o + 1)), .ref (κ.2.1 + (o + 3)), .null, .int 0, .int 0, .int 0, .int 0, .int 0, .int 0, .int 0, .int 0, .int 0]) :: ((([] ++ blkX7 κ (o + 1) 60 0) ++ blkX7 κ (o + 3) 60 0) ++ blkX7 κ (o + 5) 60 0))) from List.append_assoc _ _ _) ?_
  refine gb_putF (q := 46) (k := 2) fX2_23 wFlRX2_23 gft2 (gDec iX2_init_ok 22 rfl) (gB_at0 ho) rfl rfl rfl rfl rfl (Nat.le_of_ble_eq_true rfl) rfl ?_
  refine gb_w (show _ = (pre ++ (.inr (2, [.ref (κ.2.1 + (o + 1)), .ref (κ.2.1 + (o + 3)), .ref (κ.2.1 + (o + 5)), .int 0, .int 0, .int 0, .int 0, .int 0, .int 0, .int 0, .int 0, .int 0]) :: ((([] ++ blkX7 κ (o + 1) 60 0) ++ blkX7 κ (o + 3) 60 0) ++ blkX7 κ (o + 5) 60 0))) from gB_set0 ho) ?_
  refine gb_aload_n (q := 47) (gDec iX2_init_ok 23 rfl) rfl rfl rfl ?_
  refine gb_iconst (v := 0) (q := 48) (gDec iX2_init_ok 24 rfl) (by decide) rfl ?_
  refine gb_put (q := 51) (k := 3) fX2_26 wFlRX2_26 gft2 (gDec iX2_init_ok 25 rfl) (gB_at0 ho) rfl rfl rfl (Nat.le_of_ble_eq_true rfl) rfl ?_
  refine gb_w (show _ = (pre ++ (.inr (2, [.ref (κ.2.1 + (o + 1)), .ref (κ.2.1 + (o + 3)), .ref (κ.2.1 + (o + 5)), .int 0, .int 0, .int 0, .int 0, .int 0, .int 0, .int 0, .int 0, .int 0]) :: ((([] ++ blkX7 κ (o + 1) 60 0) ++ blkX7 κ (o + 3) 60 0) ++ blkX7 κ (o + 5) 60 0))) from gB_set0 ho) ?_
  refine gb_aload_n (q := 52) (gDec iX2_init_ok 26 rfl) rfl rfl rfl ?_
  refine gb_iconst (v := 0) (q := 53) (gDec iX2_init_ok 27 rfl) (by decide) rfl ?_
  refine gb_put (q := 56) (k := 4) fX2_30 wFlRX2_30 gft2 (gDec iX2_init_ok 28 rfl) (gB_at0 ho) rfl rfl rfl (Nat.le_of_ble_eq_true rfl) rfl ?_
  refine gb_w (show _ = (pre ++ (.inr (2, [.ref (κ.2.1 + (o + 1)), .ref (κ.2.1 + (o + 3)), .ref (κ.2.1 + (o + 5)), .int 0, .int 0, .int 0, .int 0, .int 0, .int 0, .int 0, .int 0, .int 0]) :: ((([] ++ blkX7 κ (o + 1) 60 0) ++ blkX7 κ (o + 3) 60 0) ++ blkX7 κ (o + 5) 60 0))) from gB_set0 ho) ?_
  refine gb_aload_n (q := 57) (gDec iX2_init_ok 29 rfl) rfl rfl rfl ?_
  refine gb_iconst (v := 0) (q := 58) (gDec iX2_init_ok 30 rfl) (by decide) rfl ?_
  refine gb_put (q := 61) (k := 5) fX2_33 wFlRX2_33 gft2 (gDec iX2_init_ok 31 rfl) (gB_at0 ho) rfl rfl rfl (Nat.le_of_ble_eq_true rfl) rfl ?_
  refine gb_w (show _ = (pre ++ (.inr (2, [.ref (κ.2.1 + (o + 1)), .ref (κ.2.1 + (o + 3)), .ref (κ.2.1 + (o + 5)), .int 0, .int 0, .int 0, .int 0, .int 0, .int 0, .int 0, .int 0, .int 0]) :: ((([] ++ blkX7 κ (o + 1) 60 0) ++ blkX7 κ (o + 3) 60 0) ++ blkX7 κ (o + 5) 60 0))) from gB_set0 ho) ?_
  refine gb_aload_n (q := 62) (gDec iX2_init_ok 32 rfl) rfl rfl rfl ?_
  refine gb_iconst (v := 0) (q := 63) (gDec iX2_init_ok 33 rfl) (by decide) rfl ?_
  refine gb_put (q := 66) (k := 6) fX2_36 wFlRX2_36 gft2 (gDec iX2_init_ok 34 rfl) (gB_at0 ho) rfl rfl rfl (Nat.le_of_ble_eq_true rfl) rfl ?_
  refine gb_w (show _ = (pre ++ (.inr (2, [.ref (κ.2.1 + (o + 1)), .ref (κ.2.1 + (o + 3)), .ref (κ.2.1 + (o + 5)), .int 0, .int 0, .int 0, .int 0, .int 0, .int 0, .int 0, .int 0, .int 0]) :: ((([] ++ blkX7 κ (o + 1) 60 0) ++ blkX7 κ (o + 3) 60 0) ++ blkX7 κ (o + 5) 60 0))) from gB_set0 ho) ?_
  refine gb_aload_n (q := 67) (gDec iX2_init_ok 35 rfl) rfl rfl rfl ?_
  refine gb_iconst (v := 0) (q := 68) (gDec iX2_init_ok 36 rfl) (by decide) rfl ?_
  refine gb_put (q := 71) (k := 7) fX2_39 wFlRX2_39 gft2 (gDec iX2_init_ok 37 rfl) (gB_at0 ho) rfl rfl rfl (Nat.le_of_ble_eq_true rfl) rfl ?_
  refine gb_w (show _ = (pre ++ (.inr (2, [.ref (κ.2.1 + (o + 1)), .ref (κ.2.1 + (o + 3)), .ref (κ.2.1 + (o + 5)), .int 0, .int 0, .int 0, .int 0, .int 0, .int 0, .int 0, .int 0, .int 0]) :: ((([] ++ blkX7 κ (o + 1) 60 0) ++ blkX7 κ (o + 3) 60 0) ++ blkX7 κ (o + 5) 60 0))) from gB_set0 ho) ?_
  refine gb_aload_n (q := 72) (gDec iX2_init_ok 38 rfl) rfl rfl rfl ?_
  refine gb_iconst (v := 0) (q := 73) (gDec iX2_init_ok 39 rfl) (by decide) rfl ?_
  refine gb_put (q := 76) (k := 8) fX2_42 wFlRX2_42 gft2 (gDec iX2_init_ok 40 rfl) (gB_at0 ho) rfl rfl rfl (Nat.le_of_ble_eq_true rfl) rfl ?_
  refine gb_w (show _ = (pre ++ (.inr (2, [.ref (κ.2.1 + (o + 1)), .ref (κ.2.1 + (o + 3)), .ref (κ.2.1 + (o + 5)), .int 0, .int 0, .int 0, .int 0, .int 0, .int 0, .int 0, .int 0, .int 0]) :: ((([] ++ blkX7 κ (o + 1) 60 0) ++ blkX7 κ (o + 3) 60 0) ++ blkX7 κ (o + 5) 60 0))) from gB_set0 ho) ?_
  refine gb_aload_n (q := 77) (gDec iX2_init_ok 41 rfl) rfl rfl rfl ?_
  refine gb_iconst (v := 0) (q := 78) (gDec iX2_init_ok 42 rfl) (by decide) rfl ?_
  refine gb_put (q := 81) (k := 9) fX2_46 wFlRX2_46 gft2 (gDec iX2_init_ok 43 rfl) (gB_at0 ho) rfl rfl rfl (Nat.le_of_ble_eq_true rfl) rfl ?_
  refine gb_w (show _ = (pre ++ (.inr (2, [.ref (κ.2.1 + (o + 1)), .ref (κ.2.1 + (o + 3)), .ref (κ.2.1 + (o + 5)), .int 0, .int 0, .int 0, .int 0, .int 0, .int 0, .int 0, .int 0, .int 0]) :: ((([] ++ blkX7 κ (o + 1) 60 0) ++ blkX7 κ (o + 3) 60 0) ++ blkX7 κ (o + 5) 60 0))) from gB_set0 ho) ?_
  refine gb_aload_n (q := 82) (gDec iX2_init_ok 44 rfl) rfl rfl rfl ?_
  refine gb_iconst (v := 0) (q := 83) (gDec iX2_init_ok 45 rfl) (by decide) rfl ?_
  refine gb_put (q := 86) (k := 10) fX2_49 wFlRX2_49 gft2 (gDec iX2_init_ok 46 rfl) (gB_at0 ho) rfl rfl rfl (Nat.le_of_ble_eq_true rfl) rfl ?_
  refine gb_w (show _ = (pre ++ (.inr (2, [.ref (κ.2.1 + (o + 1)), .ref (κ.2.1 + (o + 3)), .ref (κ.2.1 + (o + 5)), .int 0, .int 0, .int 0, .int 0, .int 0, .int 0, .int 0, .int 0, .int 0]) :: ((([] ++ blkX7 κ (o + 1) 60 0) ++ blkX7 κ (o + 3) 60 0) ++ blkX7 κ (o + 5) 60 0))) from gB_set0 ho) ?_
  refine gb_aload_n (q := 87) (gDec iX2_init_ok 47 rfl) rfl rfl rfl ?_
  refine gb_iconst (v := 0) (q := 88) (gDec iX2_init_ok 48 rfl) (by decide) rfl ?_
  refine gb_put (q := 91) (k := 11) fX2_52 wFlRX2_52 gft2 (gDec iX2_init_ok 49 rfl) (gB_at0 ho) rfl rfl rfl (Nat.le_of_ble_eq_true rfl) rfl ?_
  refine gb_w (show _ = (pre ++ (.inr (2, [.ref (κ.2.1 + (o + 1)), .ref (κ.2.1 + (o + 3)), .ref (κ.2.1 + (o + 5)), .int 0, .int 0, .int 0, .int 0, .int 0, .int 0, .int 0, .int 0, .int 0]) :: ((([] ++ blkX7 κ (o + 1) 60 0) ++ blkX7 κ (o + 3) 60 0) ++ blkX7 κ (o + 5) 60 0))) from gB_set0 ho) ?_
  exact gb_ret (gDec iX2_init_ok 50 rfl) rfl rfl

def iX6_init : List (Nat × Instr × Nat) := [(0, .aload_n 0, 1), (1, .invokespecial 3, 3), (4, .aload_n 0, 1), (5, .new 9, 3), (8, .dup, 1), (9, .bipush 60, 2), (11, .iconst (-1), 1), (12, .invokespecial 11, 3), (15, .putfield 14, 3), (18, .aload_n 0, 1), (19, .new 9, 3), (22, .dup, 1), (23, .bipush 60, 2), (25, .iconst 0, 1), (26, .invokespecial 11, 3), (29, .putfield 20, 3), (32, .aload_n 0, 1), (33, .new 9, 3), (36, .dup, 1), (37, .bipush 60, 2), (39, .iconst 0, 1), (40, .invokespecial 11, 3), (43, .putfield 23, 3), (46, .aload_n 0, 1), (47, .new 9, 3), (50, .dup, 1), (51, .bipush 60, 2), (53, .iconst 0, 1), (54, .invokespecial 11, 3), (57, .putfield 26, 3), (60, .aload_n 0, 1), (61, .new 9, 3), (64, .dup, 1), (65, .bipush 60, 2), (67, .iconst 0, 1), (68, .invokespecial 11, 3), (71, .putfield 29, 3), (74, .aload_n 0, 1), (75, .new 9, 3), (78, .dup, 1), (79, .bipush 60, 2), (81, .iconst 0, 1), (82, .invokespecial 11, 3), (85, .putfield 32, 3), (88, .aload_n 0, 1), (89, .iconst 0, 1), (90, .putfield 35, 3), (93, .aload_n 0, 1), (94, .iconst 0, 1), (95, .putfield 39, 3), (98, .aload_n 0, 1), (99, .iconst 0, 1), (100, .putfield 42, 3), (103, .aload_n 0, 1), (104, .iconst 0, 1), (105, .putfield 45, 3), (108, .return_, 1)]
theorem iX6_init_ok : gDecs mX6_init iX6_init := by decide +kernel

theorem wObRX6_3 : gOI RX6 3 := ⟨⟨gI2 (List.mem_of_getElem? (i := 12) rfl), rfl⟩, ⟨gI1 (List.mem_of_getElem? (i := 33) rfl), rfl⟩, ⟨gI1 (List.mem_of_getElem? (i := 34) rfl), rfl⟩⟩
theorem wClRX6_9 : gH (.classLink RX6 9 RX7) := ⟨gI2 (List.mem_of_getElem? (i := 13) rfl), rfl⟩
theorem wKiRX6_11 : gIL RX6 11 mX7_init 2 := ⟨⟨gI2 (List.mem_of_getElem? (i := 14) rfl), rfl⟩, wIbX7⟩
theorem wFlRX6_14 : gH (.fieldLink RX6 14 RX6 "glyphs" "LTypeDesigner$Row;") := ⟨gI2 (List.mem_of_getElem? (i := 15) rfl), rfl⟩
theorem wFlRX6_20 : gH (.fieldLink RX6 20 RX6 "places" "LTypeDesigner$Row;") := ⟨gI2 (List.mem_of_getElem? (i := 16) rfl), rfl⟩
theorem wFlRX6_23 : gH (.fieldLink RX6 23 RX6 "ends" "LTypeDesigner$Row;") := ⟨gI2 (List.mem_of_getElem? (i := 17) rfl), rfl⟩
theorem wFlRX6_26 : gH (.fieldLink RX6 26 RX6 "lineWidths" "LTypeDesigner$Row;") := ⟨gI2 (List.mem_of_getElem? (i := 18) rfl), rfl⟩
theorem wFlRX6_29 : gH (.fieldLink RX6 29 RX6 "lineStarts" "LTypeDesigner$Row;") := ⟨gI2 (List.mem_of_getElem? (i := 19) rfl), rfl⟩
theorem wFlRX6_32 : gH (.fieldLink RX6 32 RX6 "lineWords" "LTypeDesigner$Row;") := ⟨gI2 (List.mem_of_getElem? (i := 20) rfl), rfl⟩
theorem wFlRX6_35 : gH (.fieldLink RX6 35 RX6 "length" "I") := ⟨gI2 (List.mem_of_getElem? (i := 21) rfl), rfl⟩
theorem wFlRX6_39 : gH (.fieldLink RX6 39 RX6 "gap" "I") := ⟨gI2 (List.mem_of_getElem? (i := 22) rfl), rfl⟩
theorem wFlRX6_42 : gH (.fieldLink RX6 42 RX6 "lines" "I") := ⟨gI2 (List.mem_of_getElem? (i := 23) rfl), rfl⟩
theorem wFlRX6_45 : gH (.fieldLink RX6 45 RX6 "leastRefused" "I") := ⟨gI2 (List.mem_of_getElem? (i := 24) rfl), rfl⟩
def blkX6 (κ : gK) (o : Nat) : List va_E := .inr (6, [.ref (κ.2.1 + (o + 1)), .ref (κ.2.1 + (o + 3)), .ref (κ.2.1 + (o + 5)), .ref (κ.2.1 + (o + 7)), .ref (κ.2.1 + (o + 9)), .ref (κ.2.1 + (o + 11)), .int 0, .int 0, .int 0, .int 0]) :: (((((([] ++ blkX7 κ (o + 1) 60 (-1)) ++ blkX7 κ (o + 3) 60 0) ++ blkX7 κ (o + 5) 60 0) ++ blkX7 κ (o + 7) 60 0) ++ blkX7 κ (o + 9) 60 0) ++ blkX7 κ (o + 11) 60 0)
theorem blkX6_len (κ : gK) (o : Nat) : (blkX6 κ o).length = 13 := rfl
set_option maxHeartbeats 4000000 in
set_option maxRecDepth 100000 in
theorem cb_X6 {κ : gK} {pre : List va_E} {o : Nat} (ho : pre.length = o) : gCb κ mX6_init 2 [.ref (κ.2.1 + o)] (pre ++ [.inr (6, [.null, .null, .null, .null, .null, .null, .int 0, .int 0, .int 0, .int 0])]) (pre ++ blkX6 κ o) 12 366 := by
  refine cb_of (by decide +kernel) rfl (Nat.le_of_ble_eq_true rfl) rfl ?_
  refine gb_aload_n (q := 1) (gDec iX6_init_ok 0 rfl) rfl rfl rfl ?_
  refine gb_obj (q := 4) wObRX6_3 (gDec iX6_init_ok 1 rfl) rfl (Nat.le_of_ble_eq_true rfl) (Nat.le_of_ble_eq_true rfl) rfl ?_
  refine gb_aload_n (q := 5) (gDec iX6_init_ok 2 rfl) rfl rfl rfl ?_
  refine gb_new (q := 8) (o := o + 1) (ci := 7) (fs := [.null]) (gB_len ho (by (simp only [List.length_cons, List.length_append, List.length_nil, blkX7_len, blkX0_len, blkX1_len, blkX2_len, blkX4_len, blkX5_len, blkX8_len, blkX9_len]) <;> omega)) rfl gin7 gft7 wClRX6_9 wInRX7 wIiRX7 wDfX7 (Nat.le_of_ble_eq_true rfl) (Nat.le_of_ble_eq_true rfl) (gDec iX6_init_ok 3 rfl) rfl ?_
  refine gb_dup (q := 9) (gDec iX6_init_ok 4 rfl) rfl rfl ?_
  refine gb_bipush (v := nI 60) (q := 11) (gDec iX6_init_ok 5 rfl) (by decide) rfl ?_
  refine gb_iconst (v := (-1)) (q := 12) (gDec iX6_init_ok 6 rfl) (by decide) rfl ?_
  refine gb_callI (q := 15) (cs2 := 2) (sl2 := 61) wKiRX6_11 (cb_X7 (κ := κ) (pre := (pre ++ (.inr (6, [.null, .null, .null, .null, .null, .null, .int 0, .int 0, .int 0, .int 0]) :: []))) (o := o + 1) (n := 60) (v := (-1)) (gB_len ho (by (simp only [List.length_cons, List.length_append, List.length_nil, blkX7_len, blkX0_len, blkX1_len, blkX2_len, blkX4_len, blkX5_len, blkX8_len, blkX9_len]) <;> omega)) (by decide) (by decide)) (gDec iX6_init_ok 7 rfl) rfl rfl (Nat.le_of_ble_eq_true rfl) rfl rfl ⟨Nat.le_of_ble_eq_true rfl, Nat.le_of_ble_eq_true rfl, Nat.le_of_ble_eq_true rfl, Nat.le_of_ble_eq_true rfl⟩ rfl ?_
  refine gb_w (show _ = (pre ++ (.inr (6, [.null, .null, .null, .null, .null, .null, .int 0, .int 0, .int 0, .int 0]) :: ([] ++ blkX7 κ (o + 1) 60 (-1)))) from List.append_assoc _ _ _) ?_
  refine gb_putF (q := 18) (k := 0) fX6_14 wFlRX6_14 gft6 (gDec iX6_init_ok 8 rfl) (gB_at0 ho) rfl rfl rfl rfl rfl (Nat.le_of_ble_eq_true rfl) rfl ?_
  refine gb_w (show _ = (pre ++ (.inr (6, [.ref (κ.2.1 + (o + 1)), .null, .null, .null, .null, .null, .int 0, .int 0, .int 0, .int 0]) :: ([] ++ blkX7 κ (o + 1) 60 (-1)))) from gB_set0 ho) ?_
  refine gb_aload_n (q := 19) (gDec iX6_init_ok 9 rfl) rfl rfl rfl ?_
  refine gb_new (q := 22) (o := o + 3) (ci := 7) (fs := [.null]) (gB_len ho (by (simp only [List.length_cons, List.length_append, List.length_nil, blkX7_len, blkX0_len, blkX1_len, blkX2_len, blkX4_len, blkX5_len, blkX8_len, blkX9_len]) <;> omega)) rfl gin7 gft7 wClRX6_9 wInRX7 wIiRX7 wDfX7 (Nat.le_of_ble_eq_true rfl) (Nat.le_of_ble_eq_true rfl) (gDec iX6_init_ok 10 rfl) rfl ?_
  refine gb_dup (q := 23) (gDec iX6_init_ok 11 rfl) rfl rfl ?_
  refine gb_bipush (v := nI 60) (q := 25) (gDec iX6_init_ok 12 rfl) (by decide) rfl ?_
  refine gb_iconst (v := 0) (q := 26) (gDec iX6_init_ok 13 rfl) (by decide) rfl ?_
  refine gb_callI (q := 29) (cs2 := 4) (sl2 := 122) wKiRX6_11 (cb_X7 (κ := κ) (pre := (pre ++ (.inr (6, [.ref (κ.2.1 + (o + 1)), .null, .null, .null, .null, .null, .int 0, .int 0, .int 0, .int 0]) :: ([] ++ blkX7 κ (o + 1) 60 (-1))))) (o := o + 3) (n := 60) (v := 0) (gB_len ho (by (simp only [List.length_cons, List.length_append, List.length_nil, blkX7_len, blkX0_len, blkX1_len, blkX2_len, blkX4_len, blkX5_len, blkX8_len, blkX9_len]) <;> omega)) (by decide) (by decide)) (gDec iX6_init_ok 14 rfl) rfl rfl (Nat.le_of_ble_eq_true rfl) rfl rfl ⟨Nat.le_of_ble_eq_true rfl, Nat.le_of_ble_eq_true rfl, Nat.le_of_ble_eq_true rfl, Nat.le_of_ble_eq_true rfl⟩ rfl ?_
  refine gb_w (show _ = (pre ++ (.inr (6, [.ref (κ.2.1 + (o + 1)), .null, .null, .null, .null, .null, .int 0, .int 0, .int 0, .int 0]) :: (([] ++ blkX7 κ (o + 1) 60 (-1)) ++ blkX7 κ (o + 3) 60 0))) from List.append_assoc _ _ _) ?_
  refine gb_putF (q := 32) (k := 1) fX6_20 wFlRX6_20 gft6 (gDec iX6_init_ok 15 rfl) (gB_at0 ho) rfl rfl rfl rfl rfl (Nat.le_of_ble_eq_true rfl) rfl ?_
  refine gb_w (show _ = (pre ++ (.inr (6, [.ref (κ.2.1 + (o + 1)), .ref (κ.2.1 + (o + 3)), .null, .null, .null, .null, .int 0, .int 0, .int 0, .int 0]) :: (([] ++ blkX7 κ (o + 1) 60 (-1)) ++ blkX7 κ (o + 3) 60 0))) from gB_set0 ho) ?_
  refine gb_aload_n (q := 33) (gDec iX6_init_ok 16 rfl) rfl rfl rfl ?_
  refine gb_new (q := 36) (o := o + 5) (ci := 7) (fs := [.null]) (gB_len ho (by (simp only [List.length_cons, List.length_append, List.length_nil, blkX7_len, blkX0_len, blkX1_len, blkX2_len, blkX4_len, blkX5_len, blkX8_len, blkX9_len]) <;> omega)) rfl gin7 gft7 wClRX6_9 wInRX7 wIiRX7 wDfX7 (Nat.le_of_ble_eq_true rfl) (Nat.le_of_ble_eq_true rfl) (gDec iX6_init_ok 17 rfl) rfl ?_
  refine gb_dup (q := 37) (gDec iX6_init_ok 18 rfl) rfl rfl ?_
  refine gb_bipush (v := nI 60) (q := 39) (gDec iX6_init_ok 19 rfl) (by decide) rfl ?_
  refine gb_iconst (v := 0) (q := 40) (gDec iX6_init_ok 20 rfl) (by decide) rfl ?_
  refine gb_callI (q := 43) (cs2 := 6) (sl2 := 183) wKiRX6_11 (cb_X7 (κ := κ) (pre := (pre ++ (.inr (6, [.ref (κ.2.1 + (o + 1)), .ref (κ.2.1 + (o + 3)), .null, .null, .null, .null, .int 0, .int 0, .int 0, .int 0]) :: (([] ++ blkX7 κ (o + 1) 60 (-1)) ++ blkX7 κ (o + 3) 60 0)))) (o := o + 5) (n := 60) (v := 0) (gB_len ho (by (simp only [List.length_cons, List.length_append, List.length_nil, blkX7_len, blkX0_len, blkX1_len, blkX2_len, blkX4_len, blkX5_len, blkX8_len, blkX9_len]) <;> omega)) (by decide) (by decide)) (gDec iX6_init_ok 21 rfl) rfl rfl (Nat.le_of_ble_eq_true rfl) rfl rfl ⟨Nat.le_of_ble_eq_true rfl, Nat.le_of_ble_eq_true rfl, Nat.le_of_ble_eq_true rfl, Nat.le_of_ble_eq_true rfl⟩ rfl ?_
  refine gb_w (show _ = (pre ++ (.inr (6, [.ref (κ.2.1 + (o + 1)), .ref (κ.2.1 + (o + 3)), .null, .null, .null, .null, .int 0, .int 0, .int 0, .int 0]) :: ((([] ++ blkX7 κ (o + 1) 60 (-1)) ++ blkX7 κ (o + 3) 60 0) ++ blkX7 κ (o + 5) 60 0))) from List.append_assoc _ _ _) ?_
  refine gb_putF (q := 46) (k := 2) fX6_23 wFlRX6_23 gft6 (gDec iX6_init_ok 22 rfl) (gB_at0 ho) rfl rfl rfl rfl rfl (Nat.le_of_ble_eq_true rfl) rfl ?_
  refine gb_w (show _ = (pre ++ (.inr (6, [.ref (κ.2.1 + (o + 1)), .ref (κ.2.1 + (o + 3)), .ref (κ.2.1 + (o + 5)), .null, .null, .null, .int 0, .int 0, .int 0, .int 0]) :: ((([] ++ blkX7 κ (o + 1) 60 (-1)) ++ blkX7 κ (o + 3) 60 0) ++ blkX7 κ (o + 5) 60 0))) from gB_set0 ho) ?_
  refine gb_aload_n (q := 47) (gDec iX6_init_ok 23 rfl) rfl rfl rfl ?_
  refine gb_new (q := 50) (o := o + 7) (ci := 7) (fs := [.null]) (gB_len ho (by (simp only [List.length_cons, List.length_append, List.length_nil, blkX7_len, blkX0_len, blkX1_len, blkX2_len, blkX4_len, blkX5_len, blkX8_len, blkX9_len]) <;> omega)) rfl gin7 gft7 wClRX6_9 wInRX7 wIiRX7 wDfX7 (Nat.le_of_ble_eq_true rfl) (Nat.le_of_ble_eq_true rfl) (gDec iX6_init_ok 24 rfl) rfl ?_
  refine gb_dup (q := 51) (gDec iX6_init_ok 25 rfl) rfl rfl ?_
  refine gb_bipush (v := nI 60) (q := 53) (gDec iX6_init_ok 26 rfl) (by decide) rfl ?_
  refine gb_iconst (v := 0) (q := 54) (gDec iX6_init_ok 27 rfl) (by decide) rfl ?_
  refine gb_callI (q := 57) (cs2 := 8) (sl2 := 244) wKiRX6_11 (cb_X7 (κ := κ) (pre := (pre ++ (.inr (6, [.ref (κ.2.1 + (o + 1)), .ref (κ.2.1 + (o + 3)), .ref (κ.2.1 + (o + 5)), .null, .null, .null, .int 0, .int 0, .int 0, .int 0]) :: ((([] ++ blkX7 κ (o + 1) 60 (-1)) ++ blkX7 κ (o + 3) 60 0) ++ blkX7 κ (o + 5) 60 0)))) (o := o + 7) (n := 60) (v := 0) (gB_len ho (by (simp only [List.length_cons, List.length_append, List.length_nil, blkX7_len, blkX0_len, blkX1_len, blkX2_len, blkX4_len, blkX5_len, blkX8_len, blkX9_len]) <;> omega)) (by decide) (by decide)) (gDec iX6_init_ok 28 rfl) rfl rfl (Nat.le_of_ble_eq_true rfl) rfl rfl ⟨Nat.le_of_ble_eq_true rfl, Nat.le_of_ble_eq_true rfl, Nat.le_of_ble_eq_true rfl, Nat.le_of_ble_eq_true rfl⟩ rfl ?_
  refine gb_w (show _ = (pre ++ (.inr (6, [.ref (κ.2.1 + (o + 1)), .ref (κ.2.1 + (o + 3)), .ref (κ.2.1 + (o + 5)), .null, .null, .null, .int 0, .int 0, .int 0, .int 0]) :: (((([] ++ blkX7 κ (o + 1) 60 (-1)) ++ blkX7 κ (o + 3) 60 0) ++ blkX7 κ (o + 5) 60 0) ++ blkX7 κ (o + 7) 60 0))) from List.append_assoc _ _ _) ?_
  refine gb_putF (q := 60) (k := 3) fX6_26 wFlRX6_26 gft6 (gDec iX6_init_ok 29 rfl) (gB_at0 ho) rfl rfl rfl rfl rfl (Nat.le_of_ble_eq_true rfl) rfl ?_
  refine gb_w (show _ = (pre ++ (.inr (6, [.ref (κ.2.1 + (o + 1)), .ref (κ.2.1 + (o + 3)), .ref (κ.2.1 + (o + 5)), .ref (κ.2.1 + (o + 7)), .null, .null, .int 0, .int 0, .int 0, .int 0]) :: (((([] ++ blkX7 κ (o + 1) 60 (-1)) ++ blkX7 κ (o + 3) 60 0) ++ blkX7 κ (o + 5) 60 0) ++ blkX7 κ (o + 7) 60 0))) from gB_set0 ho) ?_
  refine gb_aload_n (q := 61) (gDec iX6_init_ok 30 rfl) rfl rfl rfl ?_
  refine gb_new (q := 64) (o := o + 9) (ci := 7) (fs := [.null]) (gB_len ho (by (simp only [List.length_cons, List.length_append, List.length_nil, blkX7_len, blkX0_len, blkX1_len, blkX2_len, blkX4_len, blkX5_len, blkX8_len, blkX9_len]) <;> omega)) rfl gin7 gft7 wClRX6_9 wInRX7 wIiRX7 wDfX7 (Nat.le_of_ble_eq_true rfl) (Nat.le_of_ble_eq_true rfl) (gDec iX6_init_ok 31 rfl) rfl ?_
  refine gb_dup (q := 65) (gDec iX6_init_ok 32 rfl) rfl rfl ?_
  refine gb_bipush (v := nI 60) (q := 67) (gDec iX6_init_ok 33 rfl) (by decide) rfl ?_
  refine gb_iconst (v := 0) (q := 68) (gDec iX6_init_ok 34 rfl) (by decide) rfl ?_
  refine gb_callI (q := 71) (cs2 := 10) (sl2 := 305) wKiRX6_11 (cb_X7 (κ := κ) (pre := (pre ++ (.inr (6, [.ref (κ.2.1 + (o + 1)), .ref (κ.2.1 + (o + 3)), .ref (κ.2.1 + (o + 5)), .ref (κ.2.1 + (o + 7)), .null, .null, .int 0, .int 0, .int 0, .int 0]) :: (((([] ++ blkX7 κ (o + 1) 60 (-1)) ++ blkX7 κ (o + 3) 60 0) ++ blkX7 κ (o + 5) 60 0) ++ blkX7 κ (o + 7) 60 0)))) (o := o + 9) (n := 60) (v := 0) (gB_len ho (by (simp only [List.length_cons, List.length_append, List.length_nil, blkX7_len, blkX0_len, blkX1_len, blkX2_len, blkX4_len, blkX5_len, blkX8_len, blkX9_len]) <;> omega)) (by decide) (by decide)) (gDec iX6_init_ok 35 rfl) rfl rfl (Nat.le_of_ble_eq_true rfl) rfl rfl ⟨Nat.le_of_ble_eq_true rfl, Nat.le_of_ble_eq_true rfl, Nat.le_of_ble_eq_true rfl, Nat.le_of_ble_eq_true rfl⟩ rfl ?_
  refine gb_w (show _ = (pre ++ (.inr (6, [.ref (κ.2.1 + (o + 1)), .ref (κ.2.1 + (o + 3)), .ref (κ.2.1 + (o + 5)), .ref (κ.2.1 + (o + 7)), .null, .null, .int 0, .int 0, .int 0, .int 0]) :: ((((([] ++ blkX7 κ (o + 1) 60 (-1)) ++ blkX7 κ (o + 3) 60 0) ++ blkX7 κ (o + 5) 60 0) ++ blkX7 κ (o + 7) 60 0) ++ blkX7 κ (o + 9) 60 0))) from List.append_assoc _ _ _) ?_
  refine gb_putF (q := 74) (k := 4) fX6_29 wFlRX6_29 gft6 (gDec iX6_init_ok 36 rfl) (gB_at0 ho) rfl rfl rfl rfl rfl (Nat.le_of_ble_eq_true rfl) rfl ?_
  refine gb_w (show _ = (pre ++ (.inr (6, [.ref (κ.2.1 + (o + 1)), .ref (κ.2.1 + (o + 3)), .ref (κ.2.1 + (o + 5)), .ref (κ.2.1 + (o + 7)), .ref (κ.2.1 + (o + 9)), .null, .int 0, .int 0, .int 0, .int 0]) :: ((((([] ++ blkX7 κ (o + 1) 60 (-1)) ++ blkX7 κ (o + 3) 60 0) ++ blkX7 κ (o + 5) 60 0) ++ blkX7 κ (o + 7) 60 0) ++ blkX7 κ (o + 9) 60 0))) from gB_set0 ho) ?_
  refine gb_aload_n (q := 75) (gDec iX6_init_ok 37 rfl) rfl rfl rfl ?_
  refine gb_new (q := 78) (o := o + 11) (ci := 7) (fs := [.null]) (gB_len ho (by (simp only [List.length_cons, List.length_append, List.length_nil, blkX7_len, blkX0_len, blkX1_len, blkX2_len, blkX4_len, blkX5_len, blkX8_len, blkX9_len]) <;> omega)) rfl gin7 gft7 wClRX6_9 wInRX7 wIiRX7 wDfX7 (Nat.le_of_ble_eq_true rfl) (Nat.le_of_ble_eq_true rfl) (gDec iX6_init_ok 38 rfl) rfl ?_
  refine gb_dup (q := 79) (gDec iX6_init_ok 39 rfl) rfl rfl ?_
  refine gb_bipush (v := nI 60) (q := 81) (gDec iX6_init_ok 40 rfl) (by decide) rfl ?_
  refine gb_iconst (v := 0) (q := 82) (gDec iX6_init_ok 41 rfl) (by decide) rfl ?_
  refine gb_callI (q := 85) (cs2 := 12) (sl2 := 366) wKiRX6_11 (cb_X7 (κ := κ) (pre := (pre ++ (.inr (6, [.ref (κ.2.1 + (o + 1)), .ref (κ.2.1 + (o + 3)), .ref (κ.2.1 + (o + 5)), .ref (κ.2.1 + (o + 7)), .ref (κ.2.1 + (o + 9)), .null, .int 0, .int 0, .int 0, .int 0]) :: ((((([] ++ blkX7 κ (o + 1) 60 (-1)) ++ blkX7 κ (o + 3) 60 0) ++ blkX7 κ (o + 5) 60 0) ++ blkX7 κ (o + 7) 60 0) ++ blkX7 κ (o + 9) 60 0)))) (o := o + 11) (n := 60) (v := 0) (gB_len ho (by (simp only [List.length_cons, List.length_append, List.length_nil, blkX7_len, blkX0_len, blkX1_len, blkX2_len, blkX4_len, blkX5_len, blkX8_len, blkX9_len]) <;> omega)) (by decide) (by decide)) (gDec iX6_init_ok 42 rfl) rfl rfl (Nat.le_of_ble_eq_true rfl) rfl rfl ⟨Nat.le_of_ble_eq_true rfl, Nat.le_of_ble_eq_true rfl, Nat.le_of_ble_eq_true rfl, Nat.le_of_ble_eq_true rfl⟩ rfl ?_
  refine gb_w (show _ = (pre ++ (.inr (6, [.ref (κ.2.1 + (o + 1)), .ref (κ.2.1 + (o + 3)), .ref (κ.2.1 + (o + 5)), .ref (κ.2.1 + (o + 7)), .ref (κ.2.1 + (o + 9)), .null, .int 0, .int 0, .int 0, .int 0]) :: (((((([] ++ blkX7 κ (o + 1) 60 (-1)) ++ blkX7 κ (o + 3) 60 0) ++ blkX7 κ (o + 5) 60 0) ++ blkX7 κ (o + 7) 60 0) ++ blkX7 κ (o + 9) 60 0) ++ blkX7 κ (o + 11) 60 0))) from List.append_assoc _ _ _) ?_
  refine gb_putF (q := 88) (k := 5) fX6_32 wFlRX6_32 gft6 (gDec iX6_init_ok 43 rfl) (gB_at0 ho) rfl rfl rfl rfl rfl (Nat.le_of_ble_eq_true rfl) rfl ?_
  refine gb_w (show _ = (pre ++ (.inr (6, [.ref (κ.2.1 + (o + 1)), .ref (κ.2.1 + (o + 3)), .ref (κ.2.1 + (o + 5)), .ref (κ.2.1 + (o + 7)), .ref (κ.2.1 + (o + 9)), .ref (κ.2.1 + (o + 11)), .int 0, .int 0, .int 0, .int 0]) :: (((((([] ++ blkX7 κ (o + 1) 60 (-1)) ++ blkX7 κ (o + 3) 60 0) ++ blkX7 κ (o + 5) 60 0) ++ blkX7 κ (o + 7) 60 0) ++ blkX7 κ (o + 9) 60 0) ++ blkX7 κ (o + 11) 60 0))) from gB_set0 ho) ?_
  refine gb_aload_n (q := 89) (gDec iX6_init_ok 44 rfl) rfl rfl rfl ?_
  refine gb_iconst (v := 0) (q := 90) (gDec iX6_init_ok 45 rfl) (by decide) rfl ?_
  refine gb_put (q := 93) (k := 6) fX6_35 wFlRX6_35 gft6 (gDec iX6_init_ok 46 rfl) (gB_at0 ho) rfl rfl rfl (Nat.le_of_ble_eq_true rfl) rfl ?_
  refine gb_w (show _ = (pre ++ (.inr (6, [.ref (κ.2.1 + (o + 1)), .ref (κ.2.1 + (o + 3)), .ref (κ.2.1 + (o + 5)), .ref (κ.2.1 + (o + 7)), .ref (κ.2.1 + (o + 9)), .ref (κ.2.1 + (o + 11)), .int 0, .int 0, .int 0, .int 0]) :: (((((([] ++ blkX7 κ (o + 1) 60 (-1)) ++ blkX7 κ (o + 3) 60 0) ++ blkX7 κ (o + 5) 60 0) ++ blkX7 κ (o + 7) 60 0) ++ blkX7 κ (o + 9) 60 0) ++ blkX7 κ (o + 11) 60 0))) from gB_set0 ho) ?_
  refine gb_aload_n (q := 94) (gDec iX6_init_ok 47 rfl) rfl rfl rfl ?_
  refine gb_iconst (v := 0) (q := 95) (gDec iX6_init_ok 48 rfl) (by decide) rfl ?_
  refine gb_put (q := 98) (k := 7) fX6_39 wFlRX6_39 gft6 (gDec iX6_init_ok 49 rfl) (gB_at0 ho) rfl rfl rfl (Nat.le_of_ble_eq_true rfl) rfl ?_
  refine gb_w (show _ = (pre ++ (.inr (6, [.ref (κ.2.1 + (o + 1)), .ref (κ.2.1 + (o + 3)), .ref (κ.2.1 + (o + 5)), .ref (κ.2.1 + (o + 7)), .ref (κ.2.1 + (o + 9)), .ref (κ.2.1 + (o + 11)), .int 0, .int 0, .int 0, .int 0]) :: (((((([] ++ blkX7 κ (o + 1) 60 (-1)) ++ blkX7 κ (o + 3) 60 0) ++ blkX7 κ (o + 5) 60 0) ++ blkX7 κ (o + 7) 60 0) ++ blkX7 κ (o + 9) 60 0) ++ blkX7 κ (o + 11) 60 0))) from gB_set0 ho) ?_
  refine gb_aload_n (q := 99) (gDec iX6_init_ok 50 rfl) rfl rfl rfl ?_
  refine gb_iconst (v := 0) (q := 100) (gDec iX6_init_ok 51 rfl) (by decide) rfl ?_
  refine gb_put (q := 103) (k := 8) fX6_42 wFlRX6_42 gft6 (gDec iX6_init_ok 52 rfl) (gB_at0 ho) rfl rfl rfl (Nat.le_of_ble_eq_true rfl) rfl ?_
  refine gb_w (show _ = (pre ++ (.inr (6, [.ref (κ.2.1 + (o + 1)), .ref (κ.2.1 + (o + 3)), .ref (κ.2.1 + (o + 5)), .ref (κ.2.1 + (o + 7)), .ref (κ.2.1 + (o + 9)), .ref (κ.2.1 + (o + 11)), .int 0, .int 0, .int 0, .int 0]) :: (((((([] ++ blkX7 κ (o + 1) 60 (-1)) ++ blkX7 κ (o + 3) 60 0) ++ blkX7 κ (o + 5) 60 0) ++ blkX7 κ (o + 7) 60 0) ++ blkX7 κ (o + 9) 60 0) ++ blkX7 κ (o + 11) 60 0))) from gB_set0 ho) ?_
  refine gb_aload_n (q := 104) (gDec iX6_init_ok 53 rfl) rfl rfl rfl ?_
  refine gb_iconst (v := 0) (q := 105) (gDec iX6_init_ok 54 rfl) (by decide) rfl ?_
  refine gb_put (q := 108) (k := 9) fX6_45 wFlRX6_45 gft6 (gDec iX6_init_ok 55 rfl) (gB_at0 ho) rfl rfl rfl (Nat.le_of_ble_eq_true rfl) rfl ?_
  refine gb_w (show _ = (pre ++ (.inr (6, [.ref (κ.2.1 + (o + 1)), .ref (κ.2.1 + (o + 3)), .ref (κ.2.1 + (o + 5)), .ref (κ.2.1 + (o + 7)), .ref (κ.2.1 + (o + 9)), .ref (κ.2.1 + (o + 11)), .int 0, .int 0, .int 0, .int 0]) :: (((((([] ++ blkX7 κ (o + 1) 60 (-1)) ++ blkX7 κ (o + 3) 60 0) ++ blkX7 κ (o + 5) 60 0) ++ blkX7 κ (o + 7) 60 0) ++ blkX7 κ (o + 9) 60 0) ++ blkX7 κ (o + 11) 60 0))) from gB_set0 ho) ?_
  exact gb_ret (gDec iX6_init_ok 56 rfl) rfl rfl

def iX11_init : List (Nat × Instr × Nat) := [(0, .aload_n 0, 1), (1, .invokespecial 3, 3), (4, .aload_n 0, 1), (5, .sipush 2500, 3), (8, .newarray .int, 2), (10, .putfield 9, 3), (13, .aload_n 0, 1), (14, .sipush 2500, 3), (17, .newarray .int, 2), (19, .putfield 13, 3), (22, .aload_n 0, 1), (23, .sipush 20000, 3), (26, .newarray .int, 2), (28, .putfield 16, 3), (31, .aload_n 0, 1), (32, .bipush 60, 2), (34, .newarray .char, 2), (36, .putfield 19, 3), (39, .aload_n 0, 1), (40, .bipush 60, 2), (42, .newarray .int, 2), (44, .putfield 23, 3), (47, .aload_n 0, 1), (48, .bipush 60, 2), (50, .newarray .int, 2), (52, .putfield 26, 3), (55, .aload_n 0, 1), (56, .bipush 60, 2), (58, .newarray .int, 2), (60, .putfield 29, 3), (63, .aload_n 0, 1), (64, .bipush 60, 2), (66, .newarray .int, 2), (68, .putfield 32, 3), (71, .aload_n 0, 1), (72, .bipush 60, 2), (74, .newarray .int, 2), (76, .putfield 35, 3), (79, .aload_n 0, 1), (80, .bipush 60, 2), (82, .newarray .int, 2), (84, .putfield 38, 3), (87, .aload_n 0, 1), (88, .bipush 60, 2), (90, .newarray .int, 2), (92, .putfield 41, 3), (95, .aload_n 0, 1), (96, .iconst (-1), 1), (97, .putfield 44, 3), (100, .aload_n 0, 1), (101, .bipush 72, 2), (103, .newarray .int, 2), (105, .putfield 48, 3), (108, .aload_n 0, 1), (109, .iconst 3, 1), (110, .newarray .int, 2), (112, .putfield 51, 3), (115, .aload_n 0, 1), (116, .getfield 9, 3), (119, .iconst 2, 1), (120, .sipush 250, 3), (123, .iastore, 1), (124, .return_, 1)]
theorem iX11_init_ok : gDecs mX11_init iX11_init := by decide +kernel

theorem wObRX11_3 : gOI RX11 3 := ⟨⟨gI6 (List.mem_of_getElem? (i := 186) rfl), rfl⟩, ⟨gI1 (List.mem_of_getElem? (i := 33) rfl), rfl⟩, ⟨gI1 (List.mem_of_getElem? (i := 34) rfl), rfl⟩⟩
theorem wFlRX11_9 : gH (.fieldLink RX11 9 RX11 "s" "[I") := ⟨gI6 (List.mem_of_getElem? (i := 187) rfl), rfl⟩
theorem wFlRX11_13 : gH (.fieldLink RX11 13 RX11 "saved" "[I") := ⟨gI6 (List.mem_of_getElem? (i := 188) rfl), rfl⟩
theorem wFlRX11_16 : gH (.fieldLink RX11 16 RX11 "past" "[I") := ⟨gI6 (List.mem_of_getElem? (i := 190) rfl), rfl⟩
theorem wAr_char : gH (.arrayClass .char) := ⟨gI7 (List.mem_of_getElem? (i := 23) rfl), rfl⟩
theorem wFlRX11_19 : gH (.fieldLink RX11 19 RX11 "buffer" "[C") := ⟨gI6 (List.mem_of_getElem? (i := 193) rfl), rfl⟩
theorem wFlRX11_23 : gH (.fieldLink RX11 23 RX11 "proof" "[I") := ⟨gI6 (List.mem_of_getElem? (i := 195) rfl), rfl⟩
theorem wFlRX11_26 : gH (.fieldLink RX11 26 RX11 "wordAt" "[I") := ⟨gI6 (List.mem_of_getElem? (i := 197) rfl), rfl⟩
theorem wFlRX11_29 : gH (.fieldLink RX11 29 RX11 "wordLong" "[I") := ⟨gI6 (List.mem_of_getElem? (i := 198) rfl), rfl⟩
theorem wFlRX11_32 : gH (.fieldLink RX11 32 RX11 "wordWide" "[I") := ⟨gI6 (List.mem_of_getElem? (i := 199) rfl), rfl⟩
theorem wFlRX11_35 : gH (.fieldLink RX11 35 RX11 "lineWord" "[I") := ⟨gI6 (List.mem_of_getElem? (i := 201) rfl), rfl⟩
theorem wFlRX11_38 : gH (.fieldLink RX11 38 RX11 "lineWords" "[I") := ⟨gI6 (List.mem_of_getElem? (i := 202) rfl), rfl⟩
theorem wFlRX11_41 : gH (.fieldLink RX11 41 RX11 "lineWide" "[I") := ⟨gI6 (List.mem_of_getElem? (i := 203) rfl), rfl⟩
theorem wFlRX11_44 : gH (.fieldLink RX11 44 RX11 "fault" "I") := ⟨gI6 (List.mem_of_getElem? (i := 208) rfl), rfl⟩
theorem wFlRX11_48 : gH (.fieldLink RX11 48 RX11 "read" "[I") := ⟨gI6 (List.mem_of_getElem? (i := 209) rfl), rfl⟩
theorem wFlRX11_51 : gH (.fieldLink RX11 51 RX11 "readMany" "[I") := ⟨gI6 (List.mem_of_getElem? (i := 210) rfl), rfl⟩
def blkX11 (κ : gK) (o : Nat) : List va_E := .inr (11, [.ref (κ.2.1 + (o + 1)), .ref (κ.2.1 + (o + 2)), .int 0, .ref (κ.2.1 + (o + 3)), .int 0, .int 0, .ref (κ.2.1 + (o + 4)), .int 0, .ref (κ.2.1 + (o + 5)), .int 0, .ref (κ.2.1 + (o + 6)), .ref (κ.2.1 + (o + 7)), .ref (κ.2.1 + (o + 8)), .int 0, .ref (κ.2.1 + (o + 9)), .ref (κ.2.1 + (o + 10)), .ref (κ.2.1 + (o + 11)), .int 0, .int 0, .int 0, .int 0, .int (-1), .ref (κ.2.1 + (o + 12)), .ref (κ.2.1 + (o + 13)), .int 0]) :: ((((((((((((([] ++ [.inl (κ.2.2.2.1 0, 2500, .inl (upd (fun _ => 0) (nI 2).toNatClampNeg 250))]) ++ [.inl (κ.2.2.2.1 0, 2500, .inl (fun _ => 0))]) ++ [.inl (κ.2.2.2.1 0, 20000, .inl (fun _ => 0))]) ++ [.inl (κ.2.2.2.1 1, 60, .inl (fun _ => 0))]) ++ [.inl (κ.2.2.2.1 0, 60, .inl (fun _ => 0))]) ++ [.inl (κ.2.2.2.1 0, 60, .inl (fun _ => 0))]) ++ [.inl (κ.2.2.2.1 0, 60, .inl (fun _ => 0))]) ++ [.inl (κ.2.2.2.1 0, 60, .inl (fun _ => 0))]) ++ [.inl (κ.2.2.2.1 0, 60, .inl (fun _ => 0))]) ++ [.inl (κ.2.2.2.1 0, 60, .inl (fun _ => 0))]) ++ [.inl (κ.2.2.2.1 0, 60, .inl (fun _ => 0))]) ++ [.inl (κ.2.2.2.1 0, 72, .inl (fun _ => 0))]) ++ [.inl (κ.2.2.2.1 0, 3, .inl (fun _ => 0))])
theorem blkX11_len (κ : gK) (o : Nat) : (blkX11 κ o).length = 14 := rfl
set_option maxHeartbeats 4000000 in
set_option maxRecDepth 100000 in
theorem cb_X11 {κ : gK} {pre : List va_E} {o : Nat} (ho : pre.length = o) : gCb κ mX11_init 1 [.ref (κ.2.1 + o)] (pre ++ [.inr (11, [.null, .null, .int 0, .null, .int 0, .int 0, .null, .int 0, .null, .int 0, .null, .null, .null, .int 0, .null, .null, .null, .int 0, .int 0, .int 0, .int 0, .int 0, .null, .null, .int 0])]) (pre ++ blkX11 κ o) 13 25555 := by
  refine cb_of (by decide +kernel) rfl (Nat.le_of_ble_eq_true rfl) rfl ?_
  refine gb_aload_n (q := 1) (gDec iX11_init_ok 0 rfl) rfl rfl rfl ?_
  refine gb_obj (q := 4) wObRX11_3 (gDec iX11_init_ok 1 rfl) rfl (Nat.le_of_ble_eq_true rfl) (Nat.le_of_ble_eq_true rfl) rfl ?_
  refine gb_aload_n (q := 5) (gDec iX11_init_ok 2 rfl) rfl rfl rfl ?_
  refine gb_sipush (v := nI 2500) (q := 8) (gDec iX11_init_ok 3 rfl) (by decide) rfl ?_
  refine gb_newa (q := 10) (atype := .int) (o := o + 1) (t0 := 0) (n := 2500) (ty := .int) (cA := κ.2.2.2.1 0) (a0 := (2500, .inl (fun _ => 0))) (gB_len ho (by (simp only [List.length_cons, List.length_append, List.length_nil, blkX7_len, blkX0_len, blkX1_len, blkX2_len, blkX4_len, blkX5_len, blkX6_len, blkX8_len, blkX9_len]) <;> omega)) wAr_int rfl rfl (fun C h => by cases h) (gB_arr _ _) (nI_pos (by decide)) (nI_clamp (by decide)) (Nat.le_of_ble_eq_true rfl) (Nat.le_of_ble_eq_true rfl) (Nat.le_of_ble_eq_true rfl) (gDec iX11_init_ok 4 rfl) rfl ?_
  refine gb_w (show _ = (pre ++ (.inr (11, [.null, .null, .int 0, .null, .int 0, .int 0, .null, .int 0, .null, .int 0, .null, .null, .null, .int 0, .null, .null, .null, .int 0, .int 0, .int 0, .int 0, .int 0, .null, .null, .int 0]) :: ([] ++ [.inl (κ.2.2.2.1 0, 2500, .inl (fun _ => 0))]))) from List.append_assoc _ _ _) ?_
  refine gb_putF (q := 13) (k := 0) fX11_9 wFlRX11_9 gft11 (gDec iX11_init_ok 5 rfl) (gB_at0 ho) rfl rfl rfl rfl rfl (Nat.le_of_ble_eq_true rfl) rfl ?_
  refine gb_w (show _ = (pre ++ (.inr (11, [.ref (κ.2.1 + (o + 1)), .null, .int 0, .null, .int 0, .int 0, .null, .int 0, .null, .int 0, .null, .null, .null, .int 0, .null, .null, .null, .int 0, .int 0, .int 0, .int 0, .int 0, .null, .null, .int 0]) :: ([] ++ [.inl (κ.2.2.2.1 0, 2500, .inl (fun _ => 0))]))) from gB_set0 ho) ?_
  refine gb_aload_n (q := 14) (gDec iX11_init_ok 6 rfl) rfl rfl rfl ?_
  refine gb_sipush (v := nI 2500) (q := 17) (gDec iX11_init_ok 7 rfl) (by decide) rfl ?_
  refine gb_newa (q := 19) (atype := .int) (o := o + 2) (t0 := 0) (n := 2500) (ty := .int) (cA := κ.2.2.2.1 0) (a0 := (2500, .inl (fun _ => 0))) (gB_len ho (by (simp only [List.length_cons, List.length_append, List.length_nil, blkX7_len, blkX0_len, blkX1_len, blkX2_len, blkX4_len, blkX5_len, blkX6_len, blkX8_len, blkX9_len]) <;> omega)) wAr_int rfl rfl (fun C h => by cases h) (gB_arr _ _) (nI_pos (by decide)) (nI_clamp (by decide)) (Nat.le_of_ble_eq_true rfl) (Nat.le_of_ble_eq_true rfl) (Nat.le_of_ble_eq_true rfl) (gDec iX11_init_ok 8 rfl) rfl ?_
  refine gb_w (show _ = (pre ++ (.inr (11, [.ref (κ.2.1 + (o + 1)), .null, .int 0, .null, .int 0, .int 0, .null, .int 0, .null, .int 0, .null, .null, .null, .int 0, .null, .null, .null, .int 0, .int 0, .int 0, .int 0, .int 0, .null, .null, .int 0]) :: (([] ++ [.inl (κ.2.2.2.1 0, 2500, .inl (fun _ => 0))]) ++ [.inl (κ.2.2.2.1 0, 2500, .inl (fun _ => 0))]))) from List.append_assoc _ _ _) ?_
  refine gb_putF (q := 22) (k := 1) fX11_13 wFlRX11_13 gft11 (gDec iX11_init_ok 9 rfl) (gB_at0 ho) rfl rfl rfl rfl rfl (Nat.le_of_ble_eq_true rfl) rfl ?_
  refine gb_w (show _ = (pre ++ (.inr (11, [.ref (κ.2.1 + (o + 1)), .ref (κ.2.1 + (o + 2)), .int 0, .null, .int 0, .int 0, .null, .int 0, .null, .int 0, .null, .null, .null, .int 0, .null, .null, .null, .int 0, .int 0, .int 0, .int 0, .int 0, .null, .null, .int 0]) :: (([] ++ [.inl (κ.2.2.2.1 0, 2500, .inl (fun _ => 0))]) ++ [.inl (κ.2.2.2.1 0, 2500, .inl (fun _ => 0))]))) from gB_set0 ho) ?_
  refine gb_aload_n (q := 23) (gDec iX11_init_ok 10 rfl) rfl rfl rfl ?_
  refine gb_sipush (v := nI 20000) (q := 26) (gDec iX11_init_ok 11 rfl) (by decide) rfl ?_
  refine gb_newa (q := 28) (atype := .int) (o := o + 3) (t0 := 0) (n := 20000) (ty := .int) (cA := κ.2.2.2.1 0) (a0 := (20000, .inl (fun _ => 0))) (gB_len ho (by (simp only [List.length_cons, List.length_append, List.length_nil, blkX7_len, blkX0_len, blkX1_len, blkX2_len, blkX4_len, blkX5_len, blkX6_len, blkX8_len, blkX9_len]) <;> omega)) wAr_int rfl rfl (fun C h => by cases h) (gB_arr _ _) (nI_pos (by decide)) (nI_clamp (by decide)) (Nat.le_of_ble_eq_true rfl) (Nat.le_of_ble_eq_true rfl) (Nat.le_of_ble_eq_true rfl) (gDec iX11_init_ok 12 rfl) rfl ?_
  refine gb_w (show _ = (pre ++ (.inr (11, [.ref (κ.2.1 + (o + 1)), .ref (κ.2.1 + (o + 2)), .int 0, .null, .int 0, .int 0, .null, .int 0, .null, .int 0, .null, .null, .null, .int 0, .null, .null, .null, .int 0, .int 0, .int 0, .int 0, .int 0, .null, .null, .int 0]) :: ((([] ++ [.inl (κ.2.2.2.1 0, 2500, .inl (fun _ => 0))]) ++ [.inl (κ.2.2.2.1 0, 2500, .inl (fun _ => 0))]) ++ [.inl (κ.2.2.2.1 0, 20000, .inl (fun _ => 0))]))) from List.append_assoc _ _ _) ?_
  refine gb_putF (q := 31) (k := 3) fX11_16 wFlRX11_16 gft11 (gDec iX11_init_ok 13 rfl) (gB_at0 ho) rfl rfl rfl rfl rfl (Nat.le_of_ble_eq_true rfl) rfl ?_
  refine gb_w (show _ = (pre ++ (.inr (11, [.ref (κ.2.1 + (o + 1)), .ref (κ.2.1 + (o + 2)), .int 0, .ref (κ.2.1 + (o + 3)), .int 0, .int 0, .null, .int 0, .null, .int 0, .null, .null, .null, .int 0, .null, .null, .null, .int 0, .int 0, .int 0, .int 0, .int 0, .null, .null, .int 0]) :: ((([] ++ [.inl (κ.2.2.2.1 0, 2500, .inl (fun _ => 0))]) ++ [.inl (κ.2.2.2.1 0, 2500, .inl (fun _ => 0))]) ++ [.inl (κ.2.2.2.1 0, 20000, .inl (fun _ => 0))]))) from gB_set0 ho) ?_
  refine gb_aload_n (q := 32) (gDec iX11_init_ok 14 rfl) rfl rfl rfl ?_
  refine gb_bipush (v := nI 60) (q := 34) (gDec iX11_init_ok 15 rfl) (by decide) rfl ?_
  refine gb_newa (q := 36) (atype := .char) (o := o + 4) (t0 := 1) (n := 60) (ty := .char) (cA := κ.2.2.2.1 1) (a0 := (60, .inl (fun _ => 0))) (gB_len ho (by (simp only [List.length_cons, List.length_append, List.length_nil, blkX7_len, blkX0_len, blkX1_len, blkX2_len, blkX4_len, blkX5_len, blkX6_len, blkX8_len, blkX9_len]) <;> omega)) wAr_char rfl rfl (fun C h => by cases h) (gB_arr _ _) (nI_pos (by decide)) (nI_clamp (by decide)) (Nat.le_of_ble_eq_true rfl) (Nat.le_of_ble_eq_true rfl) (Nat.le_of_ble_eq_true rfl) (gDec iX11_init_ok 16 rfl) rfl ?_
  refine gb_w (show _ = (pre ++ (.inr (11, [.ref (κ.2.1 + (o + 1)), .ref (κ.2.1 + (o + 2)), .int 0, .ref (κ.2.1 + (o + 3)), .int 0, .int 0, .null, .int 0, .null, .int 0, .null, .null, .null, .int 0, .null, .null, .null, .int 0, .int 0, .int 0, .int 0, .int 0, .null, .null, .int 0]) :: (((([] ++ [.inl (κ.2.2.2.1 0, 2500, .inl (fun _ => 0))]) ++ [.inl (κ.2.2.2.1 0, 2500, .inl (fun _ => 0))]) ++ [.inl (κ.2.2.2.1 0, 20000, .inl (fun _ => 0))]) ++ [.inl (κ.2.2.2.1 1, 60, .inl (fun _ => 0))]))) from List.append_assoc _ _ _) ?_
  refine gb_putF (q := 39) (k := 6) fX11_19 wFlRX11_19 gft11 (gDec iX11_init_ok 17 rfl) (gB_at0 ho) rfl rfl rfl rfl rfl (Nat.le_of_ble_eq_true rfl) rfl ?_
  refine gb_w (show _ = (pre ++ (.inr (11, [.ref (κ.2.1 + (o + 1)), .ref (κ.2.1 + (o + 2)), .int 0, .ref (κ.2.1 + (o + 3)), .int 0, .int 0, .ref (κ.2.1 + (o + 4)), .int 0, .null, .int 0, .null, .null, .null, .int 0, .null, .null, .null, .int 0, .int 0, .int 0, .int 0, .int 0, .null, .null, .int 0]) :: (((([] ++ [.inl (κ.2.2.2.1 0, 2500, .inl (fun _ => 0))]) ++ [.inl (κ.2.2.2.1 0, 2500, .inl (fun _ => 0))]) ++ [.inl (κ.2.2.2.1 0, 20000, .inl (fun _ => 0))]) ++ [.inl (κ.2.2.2.1 1, 60, .inl (fun _ => 0))]))) from gB_set0 ho) ?_
  refine gb_aload_n (q := 40) (gDec iX11_init_ok 18 rfl) rfl rfl rfl ?_
  refine gb_bipush (v := nI 60) (q := 42) (gDec iX11_init_ok 19 rfl) (by decide) rfl ?_
  refine gb_newa (q := 44) (atype := .int) (o := o + 5) (t0 := 0) (n := 60) (ty := .int) (cA := κ.2.2.2.1 0) (a0 := (60, .inl (fun _ => 0))) (gB_len ho (by (simp only [List.length_cons, List.length_append, List.length_nil, blkX7_len, blkX0_len, blkX1_len, blkX2_len, blkX4_len, blkX5_len, blkX6_len, blkX8_len, blkX9_len]) <;> omega)) wAr_int rfl rfl (fun C h => by cases h) (gB_arr _ _) (nI_pos (by decide)) (nI_clamp (by decide)) (Nat.le_of_ble_eq_true rfl) (Nat.le_of_ble_eq_true rfl) (Nat.le_of_ble_eq_true rfl) (gDec iX11_init_ok 20 rfl) rfl ?_
  refine gb_w (show _ = (pre ++ (.inr (11, [.ref (κ.2.1 + (o + 1)), .ref (κ.2.1 + (o + 2)), .int 0, .ref (κ.2.1 + (o + 3)), .int 0, .int 0, .ref (κ.2.1 + (o + 4)), .int 0, .null, .int 0, .null, .null, .null, .int 0, .null, .null, .null, .int 0, .int 0, .int 0, .int 0, .int 0, .null, .null, .int 0]) :: ((((([] ++ [.inl (κ.2.2.2.1 0, 2500, .inl (fun _ => 0))]) ++ [.inl (κ.2.2.2.1 0, 2500, .inl (fun _ => 0))]) ++ [.inl (κ.2.2.2.1 0, 20000, .inl (fun _ => 0))]) ++ [.inl (κ.2.2.2.1 1, 60, .inl (fun _ => 0))]) ++ [.inl (κ.2.2.2.1 0, 60, .inl (fun _ => 0))]))) from List.append_assoc _ _ _) ?_
  refine gb_putF (q := 47) (k := 8) fX11_23 wFlRX11_23 gft11 (gDec iX11_init_ok 21 rfl) (gB_at0 ho) rfl rfl rfl rfl rfl (Nat.le_of_ble_eq_true rfl) rfl ?_
  refine gb_w (show _ = (pre ++ (.inr (11, [.ref (κ.2.1 + (o + 1)), .ref (κ.2.1 + (o + 2)), .int 0, .ref (κ.2.1 + (o + 3)), .int 0, .int 0, .ref (κ.2.1 + (o + 4)), .int 0, .ref (κ.2.1 + (o + 5)), .int 0, .null, .null, .null, .int 0, .null, .null, .null, .int 0, .int 0, .int 0, .int 0, .int 0, .null, .null, .int 0]) :: ((((([] ++ [.inl (κ.2.2.2.1 0, 2500, .inl (fun _ => 0))]) ++ [.inl (κ.2.2.2.1 0, 2500, .inl (fun _ => 0))]) ++ [.inl (κ.2.2.2.1 0, 20000, .inl (fun _ => 0))]) ++ [.inl (κ.2.2.2.1 1, 60, .inl (fun _ => 0))]) ++ [.inl (κ.2.2.2.1 0, 60, .inl (fun _ => 0))]))) from gB_set0 ho) ?_
  refine gb_aload_n (q := 48) (gDec iX11_init_ok 22 rfl) rfl rfl rfl ?_
  refine gb_bipush (v := nI 60) (q := 50) (gDec iX11_init_ok 23 rfl) (by decide) rfl ?_
  refine gb_newa (q := 52) (atype := .int) (o := o + 6) (t0 := 0) (n := 60) (ty := .int) (cA := κ.2.2.2.1 0) (a0 := (60, .inl (fun _ => 0))) (gB_len ho (by (simp only [List.length_cons, List.length_append, List.length_nil, blkX7_len, blkX0_len, blkX1_len, blkX2_len, blkX4_len, blkX5_len, blkX6_len, blkX8_len, blkX9_len]) <;> omega)) wAr_int rfl rfl (fun C h => by cases h) (gB_arr _ _) (nI_pos (by decide)) (nI_clamp (by decide)) (Nat.le_of_ble_eq_true rfl) (Nat.le_of_ble_eq_true rfl) (Nat.le_of_ble_eq_true rfl) (gDec iX11_init_ok 24 rfl) rfl ?_
  refine gb_w (show _ = (pre ++ (.inr (11, [.ref (κ.2.1 + (o + 1)), .ref (κ.2.1 + (o + 2)), .int 0, .ref (κ.2.1 + (o + 3)), .int 0, .int 0, .ref (κ.2.1 + (o + 4)), .int 0, .ref (κ.2.1 + (o + 5)), .int 0, .null, .null, .null, .int 0, .null, .null, .null, .int 0, .int 0, .int 0, .int 0, .int 0, .null, .null, .int 0]) :: (((((([] ++ [.inl (κ.2.2.2.1 0, 2500, .inl (fun _ => 0))]) ++ [.inl (κ.2.2.2.1 0, 2500, .inl (fun _ => 0))]) ++ [.inl (κ.2.2.2.1 0, 20000, .inl (fun _ => 0))]) ++ [.inl (κ.2.2.2.1 1, 60, .inl (fun _ => 0))]) ++ [.inl (κ.2.2.2.1 0, 60, .inl (fun _ => 0))]) ++ [.inl (κ.2.2.2.1 0, 60, .inl (fun _ => 0))]))) from List.append_assoc _ _ _) ?_
  refine gb_putF (q := 55) (k := 10) fX11_26 wFlRX11_26 gft11 (gDec iX11_init_ok 25 rfl) (gB_at0 ho) rfl rfl rfl rfl rfl (Nat.le_of_ble_eq_true rfl) rfl ?_
  refine gb_w (show _ = (pre ++ (.inr (11, [.ref (κ.2.1 + (o + 1)), .ref (κ.2.1 + (o + 2)), .int 0, .ref (κ.2.1 + (o + 3)), .int 0, .int 0, .ref (κ.2.1 + (o + 4)), .int 0, .ref (κ.2.1 + (o + 5)), .int 0, .ref (κ.2.1 + (o + 6)), .null, .null, .int 0, .null, .null, .null, .int 0, .int 0, .int 0, .int 0, .int 0, .null, .null, .int 0]) :: (((((([] ++ [.inl (κ.2.2.2.1 0, 2500, .inl (fun _ => 0))]) ++ [.inl (κ.2.2.2.1 0, 2500, .inl (fun _ => 0))]) ++ [.inl (κ.2.2.2.1 0, 20000, .inl (fun _ => 0))]) ++ [.inl (κ.2.2.2.1 1, 60, .inl (fun _ => 0))]) ++ [.inl (κ.2.2.2.1 0, 60, .inl (fun _ => 0))]) ++ [.inl (κ.2.2.2.1 0, 60, .inl (fun _ => 0))]))) from gB_set0 ho) ?_
  refine gb_aload_n (q := 56) (gDec iX11_init_ok 26 rfl) rfl rfl rfl ?_
  refine gb_bipush (v := nI 60) (q := 58) (gDec iX11_init_ok 27 rfl) (by decide) rfl ?_
  refine gb_newa (q := 60) (atype := .int) (o := o + 7) (t0 := 0) (n := 60) (ty := .int) (cA := κ.2.2.2.1 0) (a0 := (60, .inl (fun _ => 0))) (gB_len ho (by (simp only [List.length_cons, List.length_append, List.length_nil, blkX7_len, blkX0_len, blkX1_len, blkX2_len, blkX4_len, blkX5_len, blkX6_len, blkX8_len, blkX9_len]) <;> omega)) wAr_int rfl rfl (fun C h => by cases h) (gB_arr _ _) (nI_pos (by decide)) (nI_clamp (by decide)) (Nat.le_of_ble_eq_true rfl) (Nat.le_of_ble_eq_true rfl) (Nat.le_of_ble_eq_true rfl) (gDec iX11_init_ok 28 rfl) rfl ?_
  refine gb_w (show _ = (pre ++ (.inr (11, [.ref (κ.2.1 + (o + 1)), .ref (κ.2.1 + (o + 2)), .int 0, .ref (κ.2.1 + (o + 3)), .int 0, .int 0, .ref (κ.2.1 + (o + 4)), .int 0, .ref (κ.2.1 + (o + 5)), .int 0, .ref (κ.2.1 + (o + 6)), .null, .null, .int 0, .null, .null, .null, .int 0, .int 0, .int 0, .int 0, .int 0, .null, .null, .int 0]) :: ((((((([] ++ [.inl (κ.2.2.2.1 0, 2500, .inl (fun _ => 0))]) ++ [.inl (κ.2.2.2.1 0, 2500, .inl (fun _ => 0))]) ++ [.inl (κ.2.2.2.1 0, 20000, .inl (fun _ => 0))]) ++ [.inl (κ.2.2.2.1 1, 60, .inl (fun _ => 0))]) ++ [.inl (κ.2.2.2.1 0, 60, .inl (fun _ => 0))]) ++ [.inl (κ.2.2.2.1 0, 60, .inl (fun _ => 0))]) ++ [.inl (κ.2.2.2.1 0, 60, .inl (fun _ => 0))]))) from List.append_assoc _ _ _) ?_
  refine gb_putF (q := 63) (k := 11) fX11_29 wFlRX11_29 gft11 (gDec iX11_init_ok 29 rfl) (gB_at0 ho) rfl rfl rfl rfl rfl (Nat.le_of_ble_eq_true rfl) rfl ?_
  refine gb_w (show _ = (pre ++ (.inr (11, [.ref (κ.2.1 + (o + 1)), .ref (κ.2.1 + (o + 2)), .int 0, .ref (κ.2.1 + (o + 3)), .int 0, .int 0, .ref (κ.2.1 + (o + 4)), .int 0, .ref (κ.2.1 + (o + 5)), .int 0, .ref (κ.2.1 + (o + 6)), .ref (κ.2.1 + (o + 7)), .null, .int 0, .null, .null, .null, .int 0, .int 0, .int 0, .int 0, .int 0, .null, .null, .int 0]) :: ((((((([] ++ [.inl (κ.2.2.2.1 0, 2500, .inl (fun _ => 0))]) ++ [.inl (κ.2.2.2.1 0, 2500, .inl (fun _ => 0))]) ++ [.inl (κ.2.2.2.1 0, 20000, .inl (fun _ => 0))]) ++ [.inl (κ.2.2.2.1 1, 60, .inl (fun _ => 0))]) ++ [.inl (κ.2.2.2.1 0, 60, .inl (fun _ => 0))]) ++ [.inl (κ.2.2.2.1 0, 60, .inl (fun _ => 0))]) ++ [.inl (κ.2.2.2.1 0, 60, .inl (fun _ => 0))]))) from gB_set0 ho) ?_
  refine gb_aload_n (q := 64) (gDec iX11_init_ok 30 rfl) rfl rfl rfl ?_
  refine gb_bipush (v := nI 60) (q := 66) (gDec iX11_init_ok 31 rfl) (by decide) rfl ?_
  refine gb_newa (q := 68) (atype := .int) (o := o + 8) (t0 := 0) (n := 60) (ty := .int) (cA := κ.2.2.2.1 0) (a0 := (60, .inl (fun _ => 0))) (gB_len ho (by (simp only [List.length_cons, List.length_append, List.length_nil, blkX7_len, blkX0_len, blkX1_len, blkX2_len, blkX4_len, blkX5_len, blkX6_len, blkX8_len, blkX9_len]) <;> omega)) wAr_int rfl rfl (fun C h => by cases h) (gB_arr _ _) (nI_pos (by decide)) (nI_clamp (by decide)) (Nat.le_of_ble_eq_true rfl) (Nat.le_of_ble_eq_true rfl) (Nat.le_of_ble_eq_true rfl) (gDec iX11_init_ok 32 rfl) rfl ?_
  refine gb_w (show _ = (pre ++ (.inr (11, [.ref (κ.2.1 + (o + 1)), .ref (κ.2.1 + (o + 2)), .int 0, .ref (κ.2.1 + (o + 3)), .int 0, .int 0, .ref (κ.2.1 + (o + 4)), .int 0, .ref (κ.2.1 + (o + 5)), .int 0, .ref (κ.2.1 + (o + 6)), .ref (κ.2.1 + (o + 7)), .null, .int 0, .null, .null, .null, .int 0, .int 0, .int 0, .int 0, .int 0, .null, .null, .int 0]) :: (((((((([] ++ [.inl (κ.2.2.2.1 0, 2500, .inl (fun _ => 0))]) ++ [.inl (κ.2.2.2.1 0, 2500, .inl (fun _ => 0))]) ++ [.inl (κ.2.2.2.1 0, 20000, .inl (fun _ => 0))]) ++ [.inl (κ.2.2.2.1 1, 60, .inl (fun _ => 0))]) ++ [.inl (κ.2.2.2.1 0, 60, .inl (fun _ => 0))]) ++ [.inl (κ.2.2.2.1 0, 60, .inl (fun _ => 0))]) ++ [.inl (κ.2.2.2.1 0, 60, .inl (fun _ => 0))]) ++ [.inl (κ.2.2.2.1 0, 60, .inl (fun _ => 0))]))) from List.append_assoc _ _ _) ?_
  refine gb_putF (q := 71) (k := 12) fX11_32 wFlRX11_32 gft11 (gDec iX11_init_ok 33 rfl) (gB_at0 ho) rfl rfl rfl rfl rfl (Nat.le_of_ble_eq_true rfl) rfl ?_
  refine gb_w (show _ = (pre ++ (.inr (11, [.ref (κ.2.1 + (o + 1)), .ref (κ.2.1 + (o + 2)), .int 0, .ref (κ.2.1 + (o + 3)), .int 0, .int 0, .ref (κ.2.1 + (o + 4)), .int 0, .ref (κ.2.1 + (o + 5)), .int 0, .ref (κ.2.1 + (o + 6)), .ref (κ.2.1 + (o + 7)), .ref (κ.2.1 + (o + 8)), .int 0, .null, .null, .null, .int 0, .int 0, .int 0, .int 0, .int 0, .null, .null, .int 0]) :: (((((((([] ++ [.inl (κ.2.2.2.1 0, 2500, .inl (fun _ => 0))]) ++ [.inl (κ.2.2.2.1 0, 2500, .inl (fun _ => 0))]) ++ [.inl (κ.2.2.2.1 0, 20000, .inl (fun _ => 0))]) ++ [.inl (κ.2.2.2.1 1, 60, .inl (fun _ => 0))]) ++ [.inl (κ.2.2.2.1 0, 60, .inl (fun _ => 0))]) ++ [.inl (κ.2.2.2.1 0, 60, .inl (fun _ => 0))]) ++ [.inl (κ.2.2.2.1 0, 60, .inl (fun _ => 0))]) ++ [.inl (κ.2.2.2.1 0, 60, .inl (fun _ => 0))]))) from gB_set0 ho) ?_
  refine gb_aload_n (q := 72) (gDec iX11_init_ok 34 rfl) rfl rfl rfl ?_
  refine gb_bipush (v := nI 60) (q := 74) (gDec iX11_init_ok 35 rfl) (by decide) rfl ?_
  refine gb_newa (q := 76) (atype := .int) (o := o + 9) (t0 := 0) (n := 60) (ty := .int) (cA := κ.2.2.2.1 0) (a0 := (60, .inl (fun _ => 0))) (gB_len ho (by (simp only [List.length_cons, List.length_append, List.length_nil, blkX7_len, blkX0_len, blkX1_len, blkX2_len, blkX4_len, blkX5_len, blkX6_len, blkX8_len, blkX9_len]) <;> omega)) wAr_int rfl rfl (fun C h => by cases h) (gB_arr _ _) (nI_pos (by decide)) (nI_clamp (by decide)) (Nat.le_of_ble_eq_true rfl) (Nat.le_of_ble_eq_true rfl) (Nat.le_of_ble_eq_true rfl) (gDec iX11_init_ok 36 rfl) rfl ?_
  refine gb_w (show _ = (pre ++ (.inr (11, [.ref (κ.2.1 + (o + 1)), .ref (κ.2.1 + (o + 2)), .int 0, .ref (κ.2.1 + (o + 3)), .int 0, .int 0, .ref (κ.2.1 + (o + 4)), .int 0, .ref (κ.2.1 + (o + 5)), .int 0, .ref (κ.2.1 + (o + 6)), .ref (κ.2.1 + (o + 7)), .ref (κ.2.1 + (o + 8)), .int 0, .null, .null, .null, .int 0, .int 0, .int 0, .int 0, .int 0, .null, .null, .int 0]) :: ((((((((([] ++ [.inl (κ.2.2.2.1 0, 2500, .inl (fun _ => 0))]) ++ [.inl (κ.2.2.2.1 0, 2500, .inl (fun _ => 0))]) ++ [.inl (κ.2.2.2.1 0, 20000, .inl (fun _ => 0))]) ++ [.inl (κ.2.2.2.1 1, 60, .inl (fun _ => 0))]) ++ [.inl (κ.2.2.2.1 0, 60, .inl (fun _ => 0))]) ++ [.inl (κ.2.2.2.1 0, 60, .inl (fun _ => 0))]) ++ [.inl (κ.2.2.2.1 0, 60, .inl (fun _ => 0))]) ++ [.inl (κ.2.2.2.1 0, 60, .inl (fun _ => 0))]) ++ [.inl (κ.2.2.2.1 0, 60, .inl (fun _ => 0))]))) from List.append_assoc _ _ _) ?_
  refine gb_putF (q := 79) (k := 14) fX11_35 wFlRX11_35 gft11 (gDec iX11_init_ok 37 rfl) (gB_at0 ho) rfl rfl rfl rfl rfl (Nat.le_of_ble_eq_true rfl) rfl ?_
  refine gb_w (show _ = (pre ++ (.inr (11, [.ref (κ.2.1 + (o + 1)), .ref (κ.2.1 + (o + 2)), .int 0, .ref (κ.2.1 + (o + 3)), .int 0, .int 0, .ref (κ.2.1 + (o + 4)), .int 0, .ref (κ.2.1 + (o + 5)), .int 0, .ref (κ.2.1 + (o + 6)), .ref (κ.2.1 + (o + 7)), .ref (κ.2.1 + (o + 8)), .int 0, .ref (κ.2.1 + (o + 9)), .null, .null, .int 0, .int 0, .int 0, .int 0, .int 0, .null, .null, .int 0]) :: ((((((((([] ++ [.inl (κ.2.2.2.1 0, 2500, .inl (fun _ => 0))]) ++ [.inl (κ.2.2.2.1 0, 2500, .inl (fun _ => 0))]) ++ [.inl (κ.2.2.2.1 0, 20000, .inl (fun _ => 0))]) ++ [.inl (κ.2.2.2.1 1, 60, .inl (fun _ => 0))]) ++ [.inl (κ.2.2.2.1 0, 60, .inl (fun _ => 0))]) ++ [.inl (κ.2.2.2.1 0, 60, .inl (fun _ => 0))]) ++ [.inl (κ.2.2.2.1 0, 60, .inl (fun _ => 0))]) ++ [.inl (κ.2.2.2.1 0, 60, .inl (fun _ => 0))]) ++ [.inl (κ.2.2.2.1 0, 60, .inl (fun _ => 0))]))) from gB_set0 ho) ?_
  refine gb_aload_n (q := 80) (gDec iX11_init_ok 38 rfl) rfl rfl rfl ?_
  refine gb_bipush (v := nI 60) (q := 82) (gDec iX11_init_ok 39 rfl) (by decide) rfl ?_
  refine gb_newa (q := 84) (atype := .int) (o := o + 10) (t0 := 0) (n := 60) (ty := .int) (cA := κ.2.2.2.1 0) (a0 := (60, .inl (fun _ => 0))) (gB_len ho (by (simp only [List.length_cons, List.length_append, List.length_nil, blkX7_len, blkX0_len, blkX1_len, blkX2_len, blkX4_len, blkX5_len, blkX6_len, blkX8_len, blkX9_len]) <;> omega)) wAr_int rfl rfl (fun C h => by cases h) (gB_arr _ _) (nI_pos (by decide)) (nI_clamp (by decide)) (Nat.le_of_ble_eq_true rfl) (Nat.le_of_ble_eq_true rfl) (Nat.le_of_ble_eq_true rfl) (gDec iX11_init_ok 40 rfl) rfl ?_
  refine gb_w (show _ = (pre ++ (.inr (11, [.ref (κ.2.1 + (o + 1)), .ref (κ.2.1 + (o + 2)), .int 0, .ref (κ.2.1 + (o + 3)), .int 0, .int 0, .ref (κ.2.1 + (o + 4)), .int 0, .ref (κ.2.1 + (o + 5)), .int 0, .ref (κ.2.1 + (o + 6)), .ref (κ.2.1 + (o + 7)), .ref (κ.2.1 + (o + 8)), .int 0, .ref (κ.2.1 + (o + 9)), .null, .null, .int 0, .int 0, .int 0, .int 0, .int 0, .null, .null, .int 0]) :: (((((((((([] ++ [.inl (κ.2.2.2.1 0, 2500, .inl (fun _ => 0))]) ++ [.inl (κ.2.2.2.1 0, 2500, .inl (fun _ => 0))]) ++ [.inl (κ.2.2.2.1 0, 20000, .inl (fun _ => 0))]) ++ [.inl (κ.2.2.2.1 1, 60, .inl (fun _ => 0))]) ++ [.inl (κ.2.2.2.1 0, 60, .inl (fun _ => 0))]) ++ [.inl (κ.2.2.2.1 0, 60, .inl (fun _ => 0))]) ++ [.inl (κ.2.2.2.1 0, 60, .inl (fun _ => 0))]) ++ [.inl (κ.2.2.2.1 0, 60, .inl (fun _ => 0))]) ++ [.inl (κ.2.2.2.1 0, 60, .inl (fun _ => 0))]) ++ [.inl (κ.2.2.2.1 0, 60, .inl (fun _ => 0))]))) from List.append_assoc _ _ _) ?_
  refine gb_putF (q := 87) (k := 15) fX11_38 wFlRX11_38 gft11 (gDec iX11_init_ok 41 rfl) (gB_at0 ho) rfl rfl rfl rfl rfl (Nat.le_of_ble_eq_true rfl) rfl ?_
  refine gb_w (show _ = (pre ++ (.inr (11, [.ref (κ.2.1 + (o + 1)), .ref (κ.2.1 + (o + 2)), .int 0, .ref (κ.2.1 + (o + 3)), .int 0, .int 0, .ref (κ.2.1 + (o + 4)), .int 0, .ref (κ.2.1 + (o + 5)), .int 0, .ref (κ.2.1 + (o + 6)), .ref (κ.2.1 + (o + 7)), .ref (κ.2.1 + (o + 8)), .int 0, .ref (κ.2.1 + (o + 9)), .ref (κ.2.1 + (o + 10)), .null, .int 0, .int 0, .int 0, .int 0, .int 0, .null, .null, .int 0]) :: (((((((((([] ++ [.inl (κ.2.2.2.1 0, 2500, .inl (fun _ => 0))]) ++ [.inl (κ.2.2.2.1 0, 2500, .inl (fun _ => 0))]) ++ [.inl (κ.2.2.2.1 0, 20000, .inl (fun _ => 0))]) ++ [.inl (κ.2.2.2.1 1, 60, .inl (fun _ => 0))]) ++ [.inl (κ.2.2.2.1 0, 60, .inl (fun _ => 0))]) ++ [.inl (κ.2.2.2.1 0, 60, .inl (fun _ => 0))]) ++ [.inl (κ.2.2.2.1 0, 60, .inl (fun _ => 0))]) ++ [.inl (κ.2.2.2.1 0, 60, .inl (fun _ => 0))]) ++ [.inl (κ.2.2.2.1 0, 60, .inl (fun _ => 0))]) ++ [.inl (κ.2.2.2.1 0, 60, .inl (fun _ => 0))]))) from gB_set0 ho) ?_
  refine gb_aload_n (q := 88) (gDec iX11_init_ok 42 rfl) rfl rfl rfl ?_
  refine gb_bipush (v := nI 60) (q := 90) (gDec iX11_init_ok 43 rfl) (by decide) rfl ?_
  refine gb_newa (q := 92) (atype := .int) (o := o + 11) (t0 := 0) (n := 60) (ty := .int) (cA := κ.2.2.2.1 0) (a0 := (60, .inl (fun _ => 0))) (gB_len ho (by (simp only [List.length_cons, List.length_append, List.length_nil, blkX7_len, blkX0_len, blkX1_len, blkX2_len, blkX4_len, blkX5_len, blkX6_len, blkX8_len, blkX9_len]) <;> omega)) wAr_int rfl rfl (fun C h => by cases h) (gB_arr _ _) (nI_pos (by decide)) (nI_clamp (by decide)) (Nat.le_of_ble_eq_true rfl) (Nat.le_of_ble_eq_true rfl) (Nat.le_of_ble_eq_true rfl) (gDec iX11_init_ok 44 rfl) rfl ?_
  refine gb_w (show _ = (pre ++ (.inr (11, [.ref (κ.2.1 + (o + 1)), .ref (κ.2.1 + (o + 2)), .int 0, .ref (κ.2.1 + (o + 3)), .int 0, .int 0, .ref (κ.2.1 + (o + 4)), .int 0, .ref (κ.2.1 + (o + 5)), .int 0, .ref (κ.2.1 + (o + 6)), .ref (κ.2.1 + (o + 7)), .ref (κ.2.1 + (o + 8)), .int 0, .ref (κ.2.1 + (o + 9)), .ref (κ.2.1 + (o + 10)), .null, .int 0, .int 0, .int 0, .int 0, .int 0, .null, .null, .int 0]) :: ((((((((((([] ++ [.inl (κ.2.2.2.1 0, 2500, .inl (fun _ => 0))]) ++ [.inl (κ.2.2.2.1 0, 2500, .inl (fun _ => 0))]) ++ [.inl (κ.2.2.2.1 0, 20000, .inl (fun _ => 0))]) ++ [.inl (κ.2.2.2.1 1, 60, .inl (fun _ => 0))]) ++ [.inl (κ.2.2.2.1 0, 60, .inl (fun _ => 0))]) ++ [.inl (κ.2.2.2.1 0, 60, .inl (fun _ => 0))]) ++ [.inl (κ.2.2.2.1 0, 60, .inl (fun _ => 0))]) ++ [.inl (κ.2.2.2.1 0, 60, .inl (fun _ => 0))]) ++ [.inl (κ.2.2.2.1 0, 60, .inl (fun _ => 0))]) ++ [.inl (κ.2.2.2.1 0, 60, .inl (fun _ => 0))]) ++ [.inl (κ.2.2.2.1 0, 60, .inl (fun _ => 0))]))) from List.append_assoc _ _ _) ?_
  refine gb_putF (q := 95) (k := 16) fX11_41 wFlRX11_41 gft11 (gDec iX11_init_ok 45 rfl) (gB_at0 ho) rfl rfl rfl rfl rfl (Nat.le_of_ble_eq_true rfl) rfl ?_
  refine gb_w (show _ = (pre ++ (.inr (11, [.ref (κ.2.1 + (o + 1)), .ref (κ.2.1 + (o + 2)), .int 0, .ref (κ.2.1 + (o + 3)), .int 0, .int 0, .ref (κ.2.1 + (o + 4)), .int 0, .ref (κ.2.1 + (o + 5)), .int 0, .ref (κ.2.1 + (o + 6)), .ref (κ.2.1 + (o + 7)), .ref (κ.2.1 + (o + 8)), .int 0, .ref (κ.2.1 + (o + 9)), .ref (κ.2.1 + (o + 10)), .ref (κ.2.1 + (o + 11)), .int 0, .int 0, .int 0, .int 0, .int 0, .null, .null, .int 0]) :: ((((((((((([] ++ [.inl (κ.2.2.2.1 0, 2500, .inl (fun _ => 0))]) ++ [.inl (κ.2.2.2.1 0, 2500, .inl (fun _ => 0))]) ++ [.inl (κ.2.2.2.1 0, 20000, .inl (fun _ => 0))]) ++ [.inl (κ.2.2.2.1 1, 60, .inl (fun _ => 0))]) ++ [.inl (κ.2.2.2.1 0, 60, .inl (fun _ => 0))]) ++ [.inl (κ.2.2.2.1 0, 60, .inl (fun _ => 0))]) ++ [.inl (κ.2.2.2.1 0, 60, .inl (fun _ => 0))]) ++ [.inl (κ.2.2.2.1 0, 60, .inl (fun _ => 0))]) ++ [.inl (κ.2.2.2.1 0, 60, .inl (fun _ => 0))]) ++ [.inl (κ.2.2.2.1 0, 60, .inl (fun _ => 0))]) ++ [.inl (κ.2.2.2.1 0, 60, .inl (fun _ => 0))]))) from gB_set0 ho) ?_
  refine gb_aload_n (q := 96) (gDec iX11_init_ok 46 rfl) rfl rfl rfl ?_
  refine gb_iconst (v := (-1)) (q := 97) (gDec iX11_init_ok 47 rfl) (by decide) rfl ?_
  refine gb_put (q := 100) (k := 21) fX11_44 wFlRX11_44 gft11 (gDec iX11_init_ok 48 rfl) (gB_at0 ho) rfl rfl rfl (Nat.le_of_ble_eq_true rfl) rfl ?_
  refine gb_w (show _ = (pre ++ (.inr (11, [.ref (κ.2.1 + (o + 1)), .ref (κ.2.1 + (o + 2)), .int 0, .ref (κ.2.1 + (o + 3)), .int 0, .int 0, .ref (κ.2.1 + (o + 4)), .int 0, .ref (κ.2.1 + (o + 5)), .int 0, .ref (κ.2.1 + (o + 6)), .ref (κ.2.1 + (o + 7)), .ref (κ.2.1 + (o + 8)), .int 0, .ref (κ.2.1 + (o + 9)), .ref (κ.2.1 + (o + 10)), .ref (κ.2.1 + (o + 11)), .int 0, .int 0, .int 0, .int 0, .int (-1), .null, .null, .int 0]) :: ((((((((((([] ++ [.inl (κ.2.2.2.1 0, 2500, .inl (fun _ => 0))]) ++ [.inl (κ.2.2.2.1 0, 2500, .inl (fun _ => 0))]) ++ [.inl (κ.2.2.2.1 0, 20000, .inl (fun _ => 0))]) ++ [.inl (κ.2.2.2.1 1, 60, .inl (fun _ => 0))]) ++ [.inl (κ.2.2.2.1 0, 60, .inl (fun _ => 0))]) ++ [.inl (κ.2.2.2.1 0, 60, .inl (fun _ => 0))]) ++ [.inl (κ.2.2.2.1 0, 60, .inl (fun _ => 0))]) ++ [.inl (κ.2.2.2.1 0, 60, .inl (fun _ => 0))]) ++ [.inl (κ.2.2.2.1 0, 60, .inl (fun _ => 0))]) ++ [.inl (κ.2.2.2.1 0, 60, .inl (fun _ => 0))]) ++ [.inl (κ.2.2.2.1 0, 60, .inl (fun _ => 0))]))) from gB_set0 ho) ?_
  refine gb_aload_n (q := 101) (gDec iX11_init_ok 49 rfl) rfl rfl rfl ?_
  refine gb_bipush (v := nI 72) (q := 103) (gDec iX11_init_ok 50 rfl) (by decide) rfl ?_
  refine gb_newa (q := 105) (atype := .int) (o := o + 12) (t0 := 0) (n := 72) (ty := .int) (cA := κ.2.2.2.1 0) (a0 := (72, .inl (fun _ => 0))) (gB_len ho (by (simp only [List.length_cons, List.length_append, List.length_nil, blkX7_len, blkX0_len, blkX1_len, blkX2_len, blkX4_len, blkX5_len, blkX6_len, blkX8_len, blkX9_len]) <;> omega)) wAr_int rfl rfl (fun C h => by cases h) (gB_arr _ _) (nI_pos (by decide)) (nI_clamp (by decide)) (Nat.le_of_ble_eq_true rfl) (Nat.le_of_ble_eq_true rfl) (Nat.le_of_ble_eq_true rfl) (gDec iX11_init_ok 51 rfl) rfl ?_
  refine gb_w (show _ = (pre ++ (.inr (11, [.ref (κ.2.1 + (o + 1)), .ref (κ.2.1 + (o + 2)), .int 0, .ref (κ.2.1 + (o + 3)), .int 0, .int 0, .ref (κ.2.1 + (o + 4)), .int 0, .ref (κ.2.1 + (o + 5)), .int 0, .ref (κ.2.1 + (o + 6)), .ref (κ.2.1 + (o + 7)), .ref (κ.2.1 + (o + 8)), .int 0, .ref (κ.2.1 + (o + 9)), .ref (κ.2.1 + (o + 10)), .ref (κ.2.1 + (o + 11)), .int 0, .int 0, .int 0, .int 0, .int (-1), .null, .null, .int 0]) :: (((((((((((([] ++ [.inl (κ.2.2.2.1 0, 2500, .inl (fun _ => 0))]) ++ [.inl (κ.2.2.2.1 0, 2500, .inl (fun _ => 0))]) ++ [.inl (κ.2.2.2.1 0, 20000, .inl (fun _ => 0))]) ++ [.inl (κ.2.2.2.1 1, 60, .inl (fun _ => 0))]) ++ [.inl (κ.2.2.2.1 0, 60, .inl (fun _ => 0))]) ++ [.inl (κ.2.2.2.1 0, 60, .inl (fun _ => 0))]) ++ [.inl (κ.2.2.2.1 0, 60, .inl (fun _ => 0))]) ++ [.inl (κ.2.2.2.1 0, 60, .inl (fun _ => 0))]) ++ [.inl (κ.2.2.2.1 0, 60, .inl (fun _ => 0))]) ++ [.inl (κ.2.2.2.1 0, 60, .inl (fun _ => 0))]) ++ [.inl (κ.2.2.2.1 0, 60, .inl (fun _ => 0))]) ++ [.inl (κ.2.2.2.1 0, 72, .inl (fun _ => 0))]))) from List.append_assoc _ _ _) ?_
  refine gb_putF (q := 108) (k := 22) fX11_48 wFlRX11_48 gft11 (gDec iX11_init_ok 52 rfl) (gB_at0 ho) rfl rfl rfl rfl rfl (Nat.le_of_ble_eq_true rfl) rfl ?_
  refine gb_w (show _ = (pre ++ (.inr (11, [.ref (κ.2.1 + (o + 1)), .ref (κ.2.1 + (o + 2)), .int 0, .ref (κ.2.1 + (o + 3)), .int 0, .int 0, .ref (κ.2.1 + (o + 4)), .int 0, .ref (κ.2.1 + (o + 5)), .int 0, .ref (κ.2.1 + (o + 6)), .ref (κ.2.1 + (o + 7)), .ref (κ.2.1 + (o + 8)), .int 0, .ref (κ.2.1 + (o + 9)), .ref (κ.2.1 + (o + 10)), .ref (κ.2.1 + (o + 11)), .int 0, .int 0, .int 0, .int 0, .int (-1), .ref (κ.2.1 + (o + 12)), .null, .int 0]) :: (((((((((((([] ++ [.inl (κ.2.2.2.1 0, 2500, .inl (fun _ => 0))]) ++ [.inl (κ.2.2.2.1 0, 2500, .inl (fun _ => 0))]) ++ [.inl (κ.2.2.2.1 0, 20000, .inl (fun _ => 0))]) ++ [.inl (κ.2.2.2.1 1, 60, .inl (fun _ => 0))]) ++ [.inl (κ.2.2.2.1 0, 60, .inl (fun _ => 0))]) ++ [.inl (κ.2.2.2.1 0, 60, .inl (fun _ => 0))]) ++ [.inl (κ.2.2.2.1 0, 60, .inl (fun _ => 0))]) ++ [.inl (κ.2.2.2.1 0, 60, .inl (fun _ => 0))]) ++ [.inl (κ.2.2.2.1 0, 60, .inl (fun _ => 0))]) ++ [.inl (κ.2.2.2.1 0, 60, .inl (fun _ => 0))]) ++ [.inl (κ.2.2.2.1 0, 60, .inl (fun _ => 0))]) ++ [.inl (κ.2.2.2.1 0, 72, .inl (fun _ => 0))]))) from gB_set0 ho) ?_
  refine gb_aload_n (q := 109) (gDec iX11_init_ok 53 rfl) rfl rfl rfl ?_
  refine gb_iconst (v := nI 3) (q := 110) (gDec iX11_init_ok 54 rfl) (by decide) rfl ?_
  refine gb_newa (q := 112) (atype := .int) (o := o + 13) (t0 := 0) (n := 3) (ty := .int) (cA := κ.2.2.2.1 0) (a0 := (3, .inl (fun _ => 0))) (gB_len ho (by (simp only [List.length_cons, List.length_append, List.length_nil, blkX7_len, blkX0_len, blkX1_len, blkX2_len, blkX4_len, blkX5_len, blkX6_len, blkX8_len, blkX9_len]) <;> omega)) wAr_int rfl rfl (fun C h => by cases h) (gB_arr _ _) (nI_pos (by decide)) (nI_clamp (by decide)) (Nat.le_of_ble_eq_true rfl) (Nat.le_of_ble_eq_true rfl) (Nat.le_of_ble_eq_true rfl) (gDec iX11_init_ok 55 rfl) rfl ?_
  refine gb_w (show _ = (pre ++ (.inr (11, [.ref (κ.2.1 + (o + 1)), .ref (κ.2.1 + (o + 2)), .int 0, .ref (κ.2.1 + (o + 3)), .int 0, .int 0, .ref (κ.2.1 + (o + 4)), .int 0, .ref (κ.2.1 + (o + 5)), .int 0, .ref (κ.2.1 + (o + 6)), .ref (κ.2.1 + (o + 7)), .ref (κ.2.1 + (o + 8)), .int 0, .ref (κ.2.1 + (o + 9)), .ref (κ.2.1 + (o + 10)), .ref (κ.2.1 + (o + 11)), .int 0, .int 0, .int 0, .int 0, .int (-1), .ref (κ.2.1 + (o + 12)), .null, .int 0]) :: ((((((((((((([] ++ [.inl (κ.2.2.2.1 0, 2500, .inl (fun _ => 0))]) ++ [.inl (κ.2.2.2.1 0, 2500, .inl (fun _ => 0))]) ++ [.inl (κ.2.2.2.1 0, 20000, .inl (fun _ => 0))]) ++ [.inl (κ.2.2.2.1 1, 60, .inl (fun _ => 0))]) ++ [.inl (κ.2.2.2.1 0, 60, .inl (fun _ => 0))]) ++ [.inl (κ.2.2.2.1 0, 60, .inl (fun _ => 0))]) ++ [.inl (κ.2.2.2.1 0, 60, .inl (fun _ => 0))]) ++ [.inl (κ.2.2.2.1 0, 60, .inl (fun _ => 0))]) ++ [.inl (κ.2.2.2.1 0, 60, .inl (fun _ => 0))]) ++ [.inl (κ.2.2.2.1 0, 60, .inl (fun _ => 0))]) ++ [.inl (κ.2.2.2.1 0, 60, .inl (fun _ => 0))]) ++ [.inl (κ.2.2.2.1 0, 72, .inl (fun _ => 0))]) ++ [.inl (κ.2.2.2.1 0, 3, .inl (fun _ => 0))]))) from List.append_assoc _ _ _) ?_
  refine gb_putF (q := 115) (k := 23) fX11_51 wFlRX11_51 gft11 (gDec iX11_init_ok 56 rfl) (gB_at0 ho) rfl rfl rfl rfl rfl (Nat.le_of_ble_eq_true rfl) rfl ?_
  refine gb_w (show _ = (pre ++ (.inr (11, [.ref (κ.2.1 + (o + 1)), .ref (κ.2.1 + (o + 2)), .int 0, .ref (κ.2.1 + (o + 3)), .int 0, .int 0, .ref (κ.2.1 + (o + 4)), .int 0, .ref (κ.2.1 + (o + 5)), .int 0, .ref (κ.2.1 + (o + 6)), .ref (κ.2.1 + (o + 7)), .ref (κ.2.1 + (o + 8)), .int 0, .ref (κ.2.1 + (o + 9)), .ref (κ.2.1 + (o + 10)), .ref (κ.2.1 + (o + 11)), .int 0, .int 0, .int 0, .int 0, .int (-1), .ref (κ.2.1 + (o + 12)), .ref (κ.2.1 + (o + 13)), .int 0]) :: ((((((((((((([] ++ [.inl (κ.2.2.2.1 0, 2500, .inl (fun _ => 0))]) ++ [.inl (κ.2.2.2.1 0, 2500, .inl (fun _ => 0))]) ++ [.inl (κ.2.2.2.1 0, 20000, .inl (fun _ => 0))]) ++ [.inl (κ.2.2.2.1 1, 60, .inl (fun _ => 0))]) ++ [.inl (κ.2.2.2.1 0, 60, .inl (fun _ => 0))]) ++ [.inl (κ.2.2.2.1 0, 60, .inl (fun _ => 0))]) ++ [.inl (κ.2.2.2.1 0, 60, .inl (fun _ => 0))]) ++ [.inl (κ.2.2.2.1 0, 60, .inl (fun _ => 0))]) ++ [.inl (κ.2.2.2.1 0, 60, .inl (fun _ => 0))]) ++ [.inl (κ.2.2.2.1 0, 60, .inl (fun _ => 0))]) ++ [.inl (κ.2.2.2.1 0, 60, .inl (fun _ => 0))]) ++ [.inl (κ.2.2.2.1 0, 72, .inl (fun _ => 0))]) ++ [.inl (κ.2.2.2.1 0, 3, .inl (fun _ => 0))]))) from gB_set0 ho) ?_
  refine gb_aload_n (q := 116) (gDec iX11_init_ok 57 rfl) rfl rfl rfl ?_
  refine gb_get (q := 119) (v := .ref (κ.2.1 + (o + 1))) fX11_9 (gDec iX11_init_ok 58 rfl) (gB_at0 ho) rfl rfl ?_
  refine gb_iconst (v := 2) (q := 120) (gDec iX11_init_ok 59 rfl) (by decide) rfl ?_
  refine gb_sipush (v := 250) (q := 123) (gDec iX11_init_ok 60 rfl) (by decide) rfl ?_
  refine gb_iast (q := 124) (t0 := 0) (gDec iX11_init_ok 61 rfl) (gB_at ho 1) rfl (vp_in_nI (n := 2) (by decide) (by decide)) rfl ?_
  refine gb_w (show _ = (pre ++ (.inr (11, [.ref (κ.2.1 + (o + 1)), .ref (κ.2.1 + (o + 2)), .int 0, .ref (κ.2.1 + (o + 3)), .int 0, .int 0, .ref (κ.2.1 + (o + 4)), .int 0, .ref (κ.2.1 + (o + 5)), .int 0, .ref (κ.2.1 + (o + 6)), .ref (κ.2.1 + (o + 7)), .ref (κ.2.1 + (o + 8)), .int 0, .ref (κ.2.1 + (o + 9)), .ref (κ.2.1 + (o + 10)), .ref (κ.2.1 + (o + 11)), .int 0, .int 0, .int 0, .int 0, .int (-1), .ref (κ.2.1 + (o + 12)), .ref (κ.2.1 + (o + 13)), .int 0]) :: ((((((((((((([] ++ [.inl (κ.2.2.2.1 0, 2500, .inl (upd (fun _ => 0) (nI 2).toNatClampNeg 250))]) ++ [.inl (κ.2.2.2.1 0, 2500, .inl (fun _ => 0))]) ++ [.inl (κ.2.2.2.1 0, 20000, .inl (fun _ => 0))]) ++ [.inl (κ.2.2.2.1 1, 60, .inl (fun _ => 0))]) ++ [.inl (κ.2.2.2.1 0, 60, .inl (fun _ => 0))]) ++ [.inl (κ.2.2.2.1 0, 60, .inl (fun _ => 0))]) ++ [.inl (κ.2.2.2.1 0, 60, .inl (fun _ => 0))]) ++ [.inl (κ.2.2.2.1 0, 60, .inl (fun _ => 0))]) ++ [.inl (κ.2.2.2.1 0, 60, .inl (fun _ => 0))]) ++ [.inl (κ.2.2.2.1 0, 60, .inl (fun _ => 0))]) ++ [.inl (κ.2.2.2.1 0, 60, .inl (fun _ => 0))]) ++ [.inl (κ.2.2.2.1 0, 72, .inl (fun _ => 0))]) ++ [.inl (κ.2.2.2.1 0, 3, .inl (fun _ => 0))]))) from gB_set ho 1 _) ?_
  exact gb_ret (gDec iX11_init_ok 62 rfl) rfl rfl
