def iX3_init : List (Nat × Instr × Nat) := [(0, .aload_n 0, 1), (1, .invokespecial 3, 3), (4, .aload_n 0, 1), (5, .bipush 8, 2), (7, .anewarray 9, 3), (10, .putfield 11, 3), (13, .aload_n 0, 1), (14, .iconst 0, 1), (15, .putfield 17, 3), (18, .aload_n 0, 1), (19, .iconst 0, 1), (20, .putfield 21, 3), (23, .iconst 0, 1), (24, .istore_n 1, 1), (25, .iload_n 1, 1), (26, .aload_n 0, 1), (27, .getfield 11, 3), (30, .arraylength, 1), (31, .if_icmp .ge 22, 3), (34, .aload_n 0, 1), (35, .getfield 11, 3), (38, .iload_n 1, 1), (39, .new 9, 3), (42, .dup, 1), (43, .invokespecial 24, 3), (46, .aastore, 1), (47, .iinc 1 1, 3), (50, .goto (-25), 3), (53, .return_, 1)]
theorem iX3_init_ok : gDecs mX3_init iX3_init := by decide +kernel

/-- i designs, one behind another -/
def blkDs (κ : gK) (o : Nat) : Nat → List va_E
  | 0 => []
  | i + 1 => blkDs κ o i ++ blkX1 κ (o + (35 * i + 2))
theorem blkDs_len (κ : gK) (o : Nat) : ∀ i, (blkDs κ o i).length = 35 * i
  | 0 => rfl
  | i + 1 => by
    show (blkDs κ o i ++ blkX1 κ (o + (35 * i + 2))).length = _
    rw [List.length_append, blkDs_len κ o i, blkX1_len]
    omega
def fDs (κ : gK) (o i : Nat) : Nat → Option Nat := fun j => if j < i then some (κ.2.1 + (o + (35 * j + 2))) else none
def obX3 (κ : gK) (o : Nat) : va_E := .inr (3, [.ref (κ.2.1 + (o + 1)), .int 0, .int 0])
def blkX3 (κ : gK) (o : Nat) : List va_E := obX3 κ o :: .inl (κ.2.2.2.1 4, 8, .inr (.inr (.inr (.inr (fun j => some (κ.2.1 + (o + (35 * j + 2)))))))) :: blkDs κ o 8
theorem blkX3_len (κ : gK) (o : Nat) : (blkX3 κ o).length = 282 := by
  show (blkDs κ o 8).length + 1 + 1 = 282
  rw [blkDs_len]
theorem gb_cell {κ : gK} {M : gM} {R : Room} {Z : gZ} {pc : Nat} {L : gL} {st : List Value} {U : List va_E} {cs sl r : Nat} {cA : ClassId} {x y : vp_A} (hU : U[r]? = some (.inl (cA, x))) (h : vp_cell cA x = vp_cell cA y) (kk : Gb κ M R Z pc L st (U.set r (.inl (cA, y))) cs sl) : Gb κ M R Z pc L st U cs sl := by
  intro p e s m args below meth c H locs ls C hP hS hl hN
  refine kk p e s m args below meth c H locs ls C ⟨?_, by rw [List.length_set]; exact hP.2⟩ hS hl hN
  have h1 := hP.1.set (gWb_D κ U) (gWb_get hU) (e := .inl (cA, y)) (H1 := H) (by
    show H[κ.2.1 + r]? = some (vp_cell cA y)
    rw [← h]
    exact hP.1 r _ (gWb_get hU)) (fun _ _ => rfl)
  rw [gWb_set] at h1
  exact h1
theorem wInRX1 : gH (.instantiable RX1 6) := ⟨gI1 (List.mem_of_getElem? (i := 36) rfl), rfl⟩
theorem wIiRX1 : gH (.initialized RX1) := ⟨gI1 (List.mem_of_getElem? (i := 2) rfl), rfl⟩
theorem wDfX1 : ∀ j, j < 6 → defaultValue (tyX1 j) = vp_V [.null, .null, .null, .null, .int 0, .int 0] j := by decide +kernel
theorem wIbX1 : gIB mX1_init 0 := ⟨rfl, ⟨gI1 (List.mem_of_getElem? (i := 38) rfl), rfl⟩, ⟨gI1 (List.mem_of_getElem? (i := 2) rfl), rfl⟩, ⟨gI1 (List.mem_of_getElem? (i := 39) rfl), rfl⟩, ⟨⟨by decide +kernel, by decide +kernel, by decide +kernel⟩, by decide⟩, rfl, rfl⟩
theorem wKiRX3_24 : gIN RX3 24 "TypeDesigner" mX1_init 0 := ⟨⟨gI1 (List.mem_of_getElem? (i := 176) rfl), rfl⟩, wIbX1⟩
theorem wClRX3_9 : gH (.classLink RX3 9 RX1) := ⟨gI1 (List.mem_of_getElem? (i := 174) rfl), rfl⟩
set_option maxHeartbeats 4000000 in
set_option maxRecDepth 100000 in
theorem lpX3_init {κ : gK} {pre : List va_E} {o : Nat} (ho : pre.length = o) : ∀ (m i : Nat), i + m = 8 → Gb κ mX3_init (gRb 4 281 23264) (gZb κ (pre ++ blkX3 κ o) 281 23264) 25 [(0, .ref (κ.2.1 + o)), (1, .int (nI i))] [] (pre ++ (obX3 κ o :: .inl (κ.2.2.2.1 4, 8, .inr (.inr (.inr (.inr (fDs κ o i))))) :: blkDs κ o i)) (1 + 35 * i) (8 + 2907 * i) := by
  intro m
  induction m with
  | zero =>
    intro i hi
    have hi : i = 8 := hi
    subst hi
    refine gb_iload_n (q := 26) (gDec iX3_init_ok 14 rfl) rfl rfl rfl ?_
    refine gb_aload_n (q := 27) (gDec iX3_init_ok 15 rfl) rfl rfl rfl ?_
    refine gb_get (q := 30) (v := .ref (κ.2.1 + (o + 1))) fX3_11 (gDec iX3_init_ok 16 rfl) (gB_at0 ho) rfl rfl ?_
    refine gb_alen (q := 31) (v := nI 8) (t0 := 4) (gDec iX3_init_ok 17 rfl) (gB_at ho 1) rfl rfl rfl ?_
    refine gb_icmp_ge (t := 53) (q := 34) (gDec iX3_init_ok 18 rfl) (by decide) rfl (fun c => ?_) (fun c => False.elim (c (Int32.le_refl _)))
    refine gb_cell (r := o + 1) (y := (8, .inr (.inr (.inr (.inr (fun j => some (κ.2.1 + (o + (35 * j + 2)))))))))  (gB_at ho 1) ?_ ?_
    · rw [vp_cell_q, vp_cell_q]
      unfold arrV
      congr 1
    · exact gb_ret (gDec iX3_init_ok 28 rfl) rfl (gB_set ho 1 _)
  | succ m ih =>
    intro i hi
    refine gb_iload_n (q := 26) (gDec iX3_init_ok 14 rfl) rfl rfl rfl ?_
    refine gb_aload_n (q := 27) (gDec iX3_init_ok 15 rfl) rfl rfl rfl ?_
    refine gb_get (q := 30) (v := .ref (κ.2.1 + (o + 1))) fX3_11 (gDec iX3_init_ok 16 rfl) (gB_at0 ho) rfl rfl ?_
    refine gb_alen (q := 31) (v := nI 8) (t0 := 4) (gDec iX3_init_ok 17 rfl) (gB_at ho 1) rfl rfl rfl ?_
    refine gb_icmp_ge (t := 53) (q := 34) (gDec iX3_init_ok 18 rfl) (by decide) rfl (fun c => False.elim (nI_ge (a := i) (b := 8) (by omega) (by omega) c)) (fun c => ?_)
    refine gb_aload_n (q := 35) (gDec iX3_init_ok 19 rfl) rfl rfl rfl ?_
    refine gb_get (q := 38) (v := .ref (κ.2.1 + (o + 1))) fX3_11 (gDec iX3_init_ok 20 rfl) (gB_at0 ho) rfl rfl ?_
    refine gb_iload_n (q := 39) (gDec iX3_init_ok 21 rfl) rfl rfl rfl ?_
    refine gb_new (q := 42) (o := o + (35 * i + 2)) (ci := 1) (fs := [.null, .null, .null, .null, .int 0, .int 0]) (gB_len ho (by show (blkDs κ o i).length + 1 + 1 = _; rw [blkDs_len])) rfl gin1 gft1 wClRX3_9 wInRX1 wIiRX1 wDfX1 (by show 1 + 35 * i + 1 ≤ 281; omega) (by show 8 + 2907 * i + 6 ≤ 23264; omega) (gDec iX3_init_ok 22 rfl) rfl ?_
    refine gb_dup (q := 43) (gDec iX3_init_ok 23 rfl) rfl rfl ?_
    refine gb_callN (q := 46) (cs2 := 1 + 35 * (i + 1)) (sl2 := 8 + 2907 * (i + 1)) wKiRX3_24 (cb_X1 (κ := κ) (pre := (pre ++ (obX3 κ o :: .inl (κ.2.2.2.1 4, 8, .inr (.inr (.inr (.inr (fDs κ o i))))) :: blkDs κ o i))) (o := o + (35 * i + 2)) (gB_len ho (by show (blkDs κ o i).length + 1 + 1 = _; rw [blkDs_len]))) (gDec iX3_init_ok 24 rfl) rfl rfl (Nat.le_of_ble_eq_true rfl) (by omega) (by omega) ⟨(Nat.le_of_ble_eq_true rfl), (Nat.le_of_ble_eq_true rfl), by show 1 + 35 * (i + 1) ≤ 281; omega, by show 8 + 2907 * (i + 1) ≤ 23264; omega⟩ rfl ?_
    refine gb_w (show _ = pre ++ (obX3 κ o :: .inl (κ.2.2.2.1 4, 8, .inr (.inr (.inr (.inr (fDs κ o i))))) :: blkDs κ o (i + 1)) from List.append_assoc _ _ _) ?_
    refine gb_aast (q := 47) (t0 := 4) (ci := 1) (n := 8) (rc := (RX1, TX1, 6)) (gDec iX3_init_ok 25 rfl) (gB_at ho 1) rfl (qk := o + (35 * i + 2)) ((gB_at ho (35 * i + 2)).trans (by
      show (blkDs κ o i ++ blkX1 κ (o + (35 * i + 2)))[35 * i]? = _
      rw [List.getElem?_append_right (by rw [blkDs_len]; exact Nat.le_refl _), blkDs_len, Nat.sub_self]
      rfl)) rfl (vp_in_nI (by omega) (by omega)) rfl ?_
    refine gb_w (show _ = (pre ++ (obX3 κ o :: .inl (κ.2.2.2.1 4, 8, .inr (.inr (.inr (.inr (fDs κ o (i + 1)))))) :: blkDs κ o (i + 1))) from (gB_set ho 1 _).trans (by
      rw [nI_clamp (by omega)]
      have : va_up (fDs κ o i) i (some (κ.2.1 + (o + (35 * i + 2)))) = fDs κ o (i + 1) := by
        funext j
        unfold va_up fDs
        by_cases h1 : j = i
        · rw [if_pos h1, if_pos (by omega), h1]
        · rw [if_neg h1]
          by_cases h2 : j < i
          · rw [if_pos h2, if_pos (by omega)]
          · rw [if_neg h2, if_neg (by omega)]
      rw [this]
      rfl)) ?_
    refine gb_iinc (v := nI (i + 1)) (q := 50) (gDec iX3_init_ok 26 rfl) rfl (nI_1 _) (by decide) rfl ?_
    refine gb_goto (t := 25) (gDec iX3_init_ok 27 rfl) (by decide) ?_
    refine gb_sub (L' := [(0, .ref (κ.2.1 + o)), (1, .int (nI (i + 1)))]) ⟨rfl, rfl, trivial⟩ ?_
    exact ih (i + 1) (by omega)

theorem wObRX3_3 : gOI RX3 3 := ⟨⟨gI1 (List.mem_of_getElem? (i := 173) rfl), rfl⟩, ⟨gI1 (List.mem_of_getElem? (i := 33) rfl), rfl⟩, ⟨gI1 (List.mem_of_getElem? (i := 34) rfl), rfl⟩⟩
theorem wFlRX3_11 : gH (.fieldLink RX3 11 RX3 "ring" "[LTypeDesigner$Design;") := ⟨gI1 (List.mem_of_getElem? (i := 177) rfl), rfl⟩
theorem wFlRX3_17 : gH (.fieldLink RX3 17 RX3 "next" "I") := ⟨gI1 (List.mem_of_getElem? (i := 178) rfl), rfl⟩
theorem wFlRX3_21 : gH (.fieldLink RX3 21 RX3 "size" "I") := ⟨gI1 (List.mem_of_getElem? (i := 179) rfl), rfl⟩
set_option maxHeartbeats 4000000 in
set_option maxRecDepth 100000 in
theorem cb_X3 {κ : gK} {pre : List va_E} {o : Nat} (ho : pre.length = o) : gCb κ mX3_init 4 [.ref (κ.2.1 + o)] (pre ++ [.inr (3, [.null, .int 0, .int 0])]) (pre ++ blkX3 κ o) 281 23264 := by
  refine cb_of (by decide +kernel) rfl (Nat.le_of_ble_eq_true rfl) rfl ?_
  refine gb_aload_n (q := 1) (gDec iX3_init_ok 0 rfl) rfl rfl rfl ?_
  refine gb_obj (q := 4) wObRX3_3 (gDec iX3_init_ok 1 rfl) rfl (Nat.le_of_ble_eq_true rfl) (Nat.le_of_ble_eq_true rfl) rfl ?_
  refine gb_aload_n (q := 5) (gDec iX3_init_ok 2 rfl) rfl rfl rfl ?_
  refine gb_bipush (v := nI 8) (q := 7) (gDec iX3_init_ok 3 rfl) (by decide) rfl ?_
  refine gb_anew (q := 10) (o := o + 1) (t0 := 4) (n := 8) (Cn := RX1) (cA := κ.2.2.2.1 4) (gB_len ho rfl) wClRX3_9 rfl rfl (nI_pos (by decide)) (nI_clamp (by decide)) (Nat.le_of_ble_eq_true rfl) (Nat.le_of_ble_eq_true rfl) (Nat.le_of_ble_eq_true rfl) (gDec iX3_init_ok 4 rfl) rfl ?_
  refine gb_w (show _ = pre ++ (.inr (3, [.null, .int 0, .int 0]) :: [.inl (κ.2.2.2.1 4, 8, .inr (.inr (.inr (.inr (fDs κ o 0)))))]) from List.append_assoc _ _ _) ?_
  refine gb_putF (q := 13) (k := 0) fX3_11 wFlRX3_11 gft3 (gDec iX3_init_ok 5 rfl) (gB_at0 ho) rfl rfl rfl rfl rfl (Nat.le_of_ble_eq_true rfl) rfl ?_
  refine gb_w (show _ = pre ++ (obX3 κ o :: [.inl (κ.2.2.2.1 4, 8, .inr (.inr (.inr (.inr (fDs κ o 0)))))]) from gB_set0 ho) ?_
  refine gb_aload_n (q := 14) (gDec iX3_init_ok 6 rfl) rfl rfl rfl ?_
  refine gb_iconst (v := 0) (q := 15) (gDec iX3_init_ok 7 rfl) (by decide) rfl ?_
  refine gb_put (q := 18) (k := 1) fX3_17 wFlRX3_17 gft3 (gDec iX3_init_ok 8 rfl) (gB_at0 ho) rfl rfl rfl (Nat.le_of_ble_eq_true rfl) rfl ?_
  refine gb_w (show _ = pre ++ (obX3 κ o :: [.inl (κ.2.2.2.1 4, 8, .inr (.inr (.inr (.inr (fDs κ o 0)))))]) from gB_set0 ho) ?_
  refine gb_aload_n (q := 19) (gDec iX3_init_ok 9 rfl) rfl rfl rfl ?_
  refine gb_iconst (v := 0) (q := 20) (gDec iX3_init_ok 10 rfl) (by decide) rfl ?_
  refine gb_put (q := 23) (k := 2) fX3_21 wFlRX3_21 gft3 (gDec iX3_init_ok 11 rfl) (gB_at0 ho) rfl rfl rfl (Nat.le_of_ble_eq_true rfl) rfl ?_
  refine gb_w (show _ = pre ++ (obX3 κ o :: [.inl (κ.2.2.2.1 4, 8, .inr (.inr (.inr (.inr (fDs κ o 0)))))]) from gB_set0 ho) ?_
  refine gb_iconst (v := nI 0) (q := 24) (gDec iX3_init_ok 12 rfl) (by decide) rfl ?_
  refine gb_istore_n (q := 25) (gDec iX3_init_ok 13 rfl) rfl (by decide) rfl ?_
  refine gb_sub (L' := [(0, .ref (κ.2.1 + o)), (1, .int (nI 0))]) ⟨rfl, rfl, trivial⟩ ?_
  exact lpX3_init ho 8 0 rfl

def iX10_init : List (Nat × Instr × Nat) := [(0, .aload_n 0, 1), (1, .invokespecial 1, 3), (4, .aload_n 0, 1), (5, .new 7, 3), (8, .dup, 1), (9, .invokespecial 9, 3), (12, .putfield 10, 3), (15, .aload_n 0, 1), (16, .new 7, 3), (19, .dup, 1), (20, .invokespecial 9, 3), (23, .putfield 16, 3), (26, .aload_n 0, 1), (27, .new 19, 3), (30, .dup, 1), (31, .invokespecial 21, 3), (34, .putfield 22, 3), (37, .aload_n 0, 1), (38, .new 26, 3), (41, .dup, 1), (42, .invokespecial 28, 3), (45, .putfield 29, 3), (48, .aload_n 0, 1), (49, .new 33, 3), (52, .dup, 1), (53, .invokespecial 35, 3), (56, .putfield 36, 3), (59, .aload_n 0, 1), (60, .new 40, 3), (63, .dup, 1), (64, .invokespecial 42, 3), (67, .putfield 43, 3), (70, .aload_n 0, 1), (71, .iconst 0, 1), (72, .putfield 47, 3), (75, .aload_n 0, 1), (76, .iconst (-1), 1), (77, .putfield 51, 3), (80, .return_, 1)]
theorem iX10_init_ok : gDecs mX10_init iX10_init := by decide +kernel

theorem wObRX10_1 : gOI RX10 1 := ⟨⟨gI1 (List.mem_of_getElem? (i := 32) rfl), rfl⟩, ⟨gI1 (List.mem_of_getElem? (i := 33) rfl), rfl⟩, ⟨gI1 (List.mem_of_getElem? (i := 34) rfl), rfl⟩⟩
theorem wClRX10_7 : gH (.classLink RX10 7 RX1) := ⟨gI1 (List.mem_of_getElem? (i := 35) rfl), rfl⟩
theorem wKiRX10_9 : gIN RX10 9 "TypeDesigner" mX1_init 0 := ⟨⟨gI1 (List.mem_of_getElem? (i := 37) rfl), rfl⟩, wIbX1⟩
theorem wFlRX10_10 : gH (.fieldLink RX10 10 RX10 "design" "LTypeDesigner$Design;") := ⟨gI2 (List.mem_of_getElem? (i := 46) rfl), rfl⟩
theorem wFlRX10_16 : gH (.fieldLink RX10 16 RX10 "snapshot" "LTypeDesigner$Design;") := ⟨gI2 (List.mem_of_getElem? (i := 47) rfl), rfl⟩
theorem wClRX10_19 : gH (.classLink RX10 19 RX3) := ⟨gI1 (List.mem_of_getElem? (i := 168) rfl), rfl⟩
theorem wInRX3 : gH (.instantiable RX3 3) := ⟨gI1 (List.mem_of_getElem? (i := 169) rfl), rfl⟩
theorem wIiRX3 : gH (.initialized RX3) := ⟨gI1 (List.mem_of_getElem? (i := 8) rfl), rfl⟩
theorem wDfX3 : ∀ j, j < 3 → defaultValue (tyX3 j) = vp_V [.null, .int 0, .int 0] j := by decide +kernel
theorem wIbX3 : gIB mX3_init 0 := ⟨rfl, ⟨gI1 (List.mem_of_getElem? (i := 171) rfl), rfl⟩, ⟨gI1 (List.mem_of_getElem? (i := 8) rfl), rfl⟩, ⟨gI1 (List.mem_of_getElem? (i := 172) rfl), rfl⟩, ⟨⟨by decide +kernel, by decide +kernel, by decide +kernel⟩, by decide⟩, rfl, rfl⟩
theorem wKiRX10_21 : gIL RX10 21 mX3_init 0 := ⟨⟨gI1 (List.mem_of_getElem? (i := 170) rfl), rfl⟩, wIbX3⟩
theorem wFlRX10_22 : gH (.fieldLink RX10 22 RX10 "history" "LTypeDesigner$History;") := ⟨gI2 (List.mem_of_getElem? (i := 48) rfl), rfl⟩
theorem wClRX10_26 : gH (.classLink RX10 26 RX9) := ⟨gI1 (List.mem_of_getElem? (i := 187) rfl), rfl⟩
theorem wInRX9 : gH (.instantiable RX9 2) := ⟨gI1 (List.mem_of_getElem? (i := 188) rfl), rfl⟩
theorem wIiRX9 : gH (.initialized RX9) := ⟨gI1 (List.mem_of_getElem? (i := 9) rfl), rfl⟩
theorem wDfX9 : ∀ j, j < 2 → defaultValue (tyX9 j) = vp_V [.null, .int 0] j := by decide +kernel
theorem wIbX9 : gIB mX9_init 0 := ⟨rfl, ⟨gI1 (List.mem_of_getElem? (i := 190) rfl), rfl⟩, ⟨gI1 (List.mem_of_getElem? (i := 9) rfl), rfl⟩, ⟨gI1 (List.mem_of_getElem? (i := 191) rfl), rfl⟩, ⟨⟨by decide +kernel, by decide +kernel, by decide +kernel⟩, by decide⟩, rfl, rfl⟩
theorem wKiRX10_28 : gIN RX10 28 "TypeDesigner" mX9_init 0 := ⟨⟨gI1 (List.mem_of_getElem? (i := 189) rfl), rfl⟩, wIbX9⟩
theorem wFlRX10_29 : gH (.fieldLink RX10 29 RX10 "buffer" "LTypeDesigner$TextBuffer;") := ⟨gI2 (List.mem_of_getElem? (i := 49) rfl), rfl⟩
theorem wClRX10_33 : gH (.classLink RX10 33 RX2) := ⟨gI1 (List.mem_of_getElem? (i := 202) rfl), rfl⟩
theorem wInRX2 : gH (.instantiable RX2 12) := ⟨gI1 (List.mem_of_getElem? (i := 203) rfl), rfl⟩
theorem wIiRX2 : gH (.initialized RX2) := ⟨gI1 (List.mem_of_getElem? (i := 10) rfl), rfl⟩
theorem wDfX2 : ∀ j, j < 12 → defaultValue (tyX2 j) = vp_V [.null, .null, .null, .int 0, .int 0, .int 0, .int 0, .int 0, .int 0, .int 0, .int 0, .int 0] j := by decide +kernel
theorem wIbX2 : gIB mX2_init 0 := ⟨rfl, ⟨gI1 (List.mem_of_getElem? (i := 205) rfl), rfl⟩, ⟨gI1 (List.mem_of_getElem? (i := 10) rfl), rfl⟩, ⟨gI1 (List.mem_of_getElem? (i := 206) rfl), rfl⟩, ⟨⟨by decide +kernel, by decide +kernel, by decide +kernel⟩, by decide⟩, rfl, rfl⟩
theorem wKiRX10_35 : gIN RX10 35 "TypeDesigner" mX2_init 0 := ⟨⟨gI1 (List.mem_of_getElem? (i := 204) rfl), rfl⟩, wIbX2⟩
theorem wFlRX10_36 : gH (.fieldLink RX10 36 RX10 "glyphText" "LTypeDesigner$GlyphText;") := ⟨gI2 (List.mem_of_getElem? (i := 50) rfl), rfl⟩
theorem wClRX10_40 : gH (.classLink RX10 40 RX6) := ⟨gI2 (List.mem_of_getElem? (i := 7) rfl), rfl⟩
theorem wInRX6 : gH (.instantiable RX6 10) := ⟨gI2 (List.mem_of_getElem? (i := 8) rfl), rfl⟩
theorem wIiRX6 : gH (.initialized RX6) := ⟨gI1 (List.mem_of_getElem? (i := 11) rfl), rfl⟩
theorem wDfX6 : ∀ j, j < 10 → defaultValue (tyX6 j) = vp_V [.null, .null, .null, .null, .null, .null, .int 0, .int 0, .int 0, .int 0] j := by decide +kernel
theorem wIbX6 : gIB mX6_init 0 := ⟨rfl, ⟨gI2 (List.mem_of_getElem? (i := 10) rfl), rfl⟩, ⟨gI1 (List.mem_of_getElem? (i := 11) rfl), rfl⟩, ⟨gI2 (List.mem_of_getElem? (i := 11) rfl), rfl⟩, ⟨⟨by decide +kernel, by decide +kernel, by decide +kernel⟩, by decide⟩, rfl, rfl⟩
theorem wKiRX10_42 : gIN RX10 42 "TypeDesigner" mX6_init 0 := ⟨⟨gI2 (List.mem_of_getElem? (i := 9) rfl), rfl⟩, wIbX6⟩
theorem wFlRX10_43 : gH (.fieldLink RX10 43 RX10 "proof" "LTypeDesigner$Proof;") := ⟨gI2 (List.mem_of_getElem? (i := 51) rfl), rfl⟩
theorem wFlRX10_47 : gH (.fieldLink RX10 47 RX10 "hasSnapshot" "Z") := ⟨gI2 (List.mem_of_getElem? (i := 52) rfl), rfl⟩
theorem wFlRX10_51 : gH (.fieldLink RX10 51 RX10 "latestFault" "I") := ⟨gI2 (List.mem_of_getElem? (i := 53) rfl), rfl⟩
def blkX10 (κ : gK) (o : Nat) : List va_E := .inr (10, [.ref (κ.2.1 + (o + 1)), .ref (κ.2.1 + (o + 36)), .ref (κ.2.1 + (o + 71)), .ref (κ.2.1 + (o + 353)), .ref (κ.2.1 + (o + 356)), .ref (κ.2.1 + (o + 363)), .int 0, .int (-1)]) :: (((((([] ++ blkX1 κ (o + 1)) ++ blkX1 κ (o + 36)) ++ blkX3 κ (o + 71)) ++ blkX9 κ (o + 353)) ++ blkX2 κ (o + 356)) ++ blkX6 κ (o + 363))
theorem blkX10_len (κ : gK) (o : Nat) : (blkX10 κ o).length = 376 := by unfold blkX10; simp only [List.length_cons, List.length_append, List.length_nil, blkX1_len, blkX3_len, blkX9_len, blkX2_len, blkX6_len]
set_option maxHeartbeats 4000000 in
set_option maxRecDepth 100000 in
theorem cb_X10 {κ : gK} {pre : List va_E} {o : Nat} (ho : pre.length = o) : gCb κ mX10_init 5 [.ref (κ.2.1 + o)] (pre ++ [.inr (10, [.null, .null, .null, .null, .null, .null, .int 0, .int 0])]) (pre ++ blkX10 κ o) 375 29715 := by
  refine cb_of (by decide +kernel) rfl (Nat.le_of_ble_eq_true rfl) rfl ?_
  refine gb_aload_n (q := 1) (gDec iX10_init_ok 0 rfl) rfl rfl rfl ?_
  refine gb_obj (q := 4) wObRX10_1 (gDec iX10_init_ok 1 rfl) rfl (Nat.le_of_ble_eq_true rfl) (Nat.le_of_ble_eq_true rfl) rfl ?_
  refine gb_aload_n (q := 5) (gDec iX10_init_ok 2 rfl) rfl rfl rfl ?_
  refine gb_new (q := 8) (o := o + 1) (ci := 1) (fs := [.null, .null, .null, .null, .int 0, .int 0]) (gB_len ho (by (simp only [List.length_cons, List.length_append, List.length_nil, blkX7_len, blkX0_len, blkX1_len, blkX2_len, blkX3_len, blkX4_len, blkX5_len, blkX6_len, blkX8_len, blkX9_len, blkX11_len]) <;> omega)) rfl gin1 gft1 wClRX10_7 wInRX1 wIiRX1 wDfX1 (Nat.le_of_ble_eq_true rfl) (Nat.le_of_ble_eq_true rfl) (gDec iX10_init_ok 3 rfl) rfl ?_
  refine gb_dup (q := 9) (gDec iX10_init_ok 4 rfl) rfl rfl ?_
  refine gb_callN (q := 12) (cs2 := 35) (sl2 := 2907) wKiRX10_9 (cb_X1 (κ := κ) (pre := (pre ++ (.inr (10, [.null, .null, .null, .null, .null, .null, .int 0, .int 0]) :: []))) (o := o + 1) (gB_len ho (by (simp only [List.length_cons, List.length_append, List.length_nil, blkX7_len, blkX0_len, blkX1_len, blkX2_len, blkX3_len, blkX4_len, blkX5_len, blkX6_len, blkX8_len, blkX9_len, blkX11_len]) <;> omega))) (gDec iX10_init_ok 5 rfl) rfl rfl (Nat.le_of_ble_eq_true rfl) rfl rfl ⟨Nat.le_of_ble_eq_true rfl, Nat.le_of_ble_eq_true rfl, Nat.le_of_ble_eq_true rfl, Nat.le_of_ble_eq_true rfl⟩ rfl ?_
  refine gb_w (show _ = (pre ++ (.inr (10, [.null, .null, .null, .null, .null, .null, .int 0, .int 0]) :: ([] ++ blkX1 κ (o + 1)))) from List.append_assoc _ _ _) ?_
  refine gb_putF (q := 15) (k := 0) fX10_10 wFlRX10_10 gft10 (gDec iX10_init_ok 6 rfl) (gB_at0 ho) rfl rfl rfl rfl rfl (Nat.le_of_ble_eq_true rfl) rfl ?_
  refine gb_w (show _ = (pre ++ (.inr (10, [.ref (κ.2.1 + (o + 1)), .null, .null, .null, .null, .null, .int 0, .int 0]) :: ([] ++ blkX1 κ (o + 1)))) from gB_set0 ho) ?_
  refine gb_aload_n (q := 16) (gDec iX10_init_ok 7 rfl) rfl rfl rfl ?_
  refine gb_new (q := 19) (o := o + 36) (ci := 1) (fs := [.null, .null, .null, .null, .int 0, .int 0]) (gB_len ho (by (simp only [List.length_cons, List.length_append, List.length_nil, blkX7_len, blkX0_len, blkX1_len, blkX2_len, blkX3_len, blkX4_len, blkX5_len, blkX6_len, blkX8_len, blkX9_len, blkX11_len]) <;> omega)) rfl gin1 gft1 wClRX10_7 wInRX1 wIiRX1 wDfX1 (Nat.le_of_ble_eq_true rfl) (Nat.le_of_ble_eq_true rfl) (gDec iX10_init_ok 8 rfl) rfl ?_
  refine gb_dup (q := 20) (gDec iX10_init_ok 9 rfl) rfl rfl ?_
  refine gb_callN (q := 23) (cs2 := 70) (sl2 := 5814) wKiRX10_9 (cb_X1 (κ := κ) (pre := (pre ++ (.inr (10, [.ref (κ.2.1 + (o + 1)), .null, .null, .null, .null, .null, .int 0, .int 0]) :: ([] ++ blkX1 κ (o + 1))))) (o := o + 36) (gB_len ho (by (simp only [List.length_cons, List.length_append, List.length_nil, blkX7_len, blkX0_len, blkX1_len, blkX2_len, blkX3_len, blkX4_len, blkX5_len, blkX6_len, blkX8_len, blkX9_len, blkX11_len]) <;> omega))) (gDec iX10_init_ok 10 rfl) rfl rfl (Nat.le_of_ble_eq_true rfl) rfl rfl ⟨Nat.le_of_ble_eq_true rfl, Nat.le_of_ble_eq_true rfl, Nat.le_of_ble_eq_true rfl, Nat.le_of_ble_eq_true rfl⟩ rfl ?_
  refine gb_w (show _ = (pre ++ (.inr (10, [.ref (κ.2.1 + (o + 1)), .null, .null, .null, .null, .null, .int 0, .int 0]) :: (([] ++ blkX1 κ (o + 1)) ++ blkX1 κ (o + 36)))) from List.append_assoc _ _ _) ?_
  refine gb_putF (q := 26) (k := 1) fX10_16 wFlRX10_16 gft10 (gDec iX10_init_ok 11 rfl) (gB_at0 ho) rfl rfl rfl rfl rfl (Nat.le_of_ble_eq_true rfl) rfl ?_
  refine gb_w (show _ = (pre ++ (.inr (10, [.ref (κ.2.1 + (o + 1)), .ref (κ.2.1 + (o + 36)), .null, .null, .null, .null, .int 0, .int 0]) :: (([] ++ blkX1 κ (o + 1)) ++ blkX1 κ (o + 36)))) from gB_set0 ho) ?_
  refine gb_aload_n (q := 27) (gDec iX10_init_ok 12 rfl) rfl rfl rfl ?_
  refine gb_new (q := 30) (o := o + 71) (ci := 3) (fs := [.null, .int 0, .int 0]) (gB_len ho (by (simp only [List.length_cons, List.length_append, List.length_nil, blkX7_len, blkX0_len, blkX1_len, blkX2_len, blkX3_len, blkX4_len, blkX5_len, blkX6_len, blkX8_len, blkX9_len, blkX11_len]) <;> omega)) rfl gin3 gft3 wClRX10_19 wInRX3 wIiRX3 wDfX3 (Nat.le_of_ble_eq_true rfl) (Nat.le_of_ble_eq_true rfl) (gDec iX10_init_ok 13 rfl) rfl ?_
  refine gb_dup (q := 31) (gDec iX10_init_ok 14 rfl) rfl rfl ?_
  refine gb_callI (q := 34) (cs2 := 352) (sl2 := 29081) wKiRX10_21 (cb_X3 (κ := κ) (pre := (pre ++ (.inr (10, [.ref (κ.2.1 + (o + 1)), .ref (κ.2.1 + (o + 36)), .null, .null, .null, .null, .int 0, .int 0]) :: (([] ++ blkX1 κ (o + 1)) ++ blkX1 κ (o + 36))))) (o := o + 71) (gB_len ho (by (simp only [List.length_cons, List.length_append, List.length_nil, blkX7_len, blkX0_len, blkX1_len, blkX2_len, blkX3_len, blkX4_len, blkX5_len, blkX6_len, blkX8_len, blkX9_len, blkX11_len]) <;> omega))) (gDec iX10_init_ok 15 rfl) rfl rfl (Nat.le_of_ble_eq_true rfl) rfl rfl ⟨Nat.le_of_ble_eq_true rfl, Nat.le_of_ble_eq_true rfl, Nat.le_of_ble_eq_true rfl, Nat.le_of_ble_eq_true rfl⟩ rfl ?_
  refine gb_w (show _ = (pre ++ (.inr (10, [.ref (κ.2.1 + (o + 1)), .ref (κ.2.1 + (o + 36)), .null, .null, .null, .null, .int 0, .int 0]) :: ((([] ++ blkX1 κ (o + 1)) ++ blkX1 κ (o + 36)) ++ blkX3 κ (o + 71)))) from List.append_assoc _ _ _) ?_
  refine gb_putF (q := 37) (k := 2) fX10_22 wFlRX10_22 gft10 (gDec iX10_init_ok 16 rfl) (gB_at0 ho) rfl rfl rfl rfl rfl (Nat.le_of_ble_eq_true rfl) rfl ?_
  refine gb_w (show _ = (pre ++ (.inr (10, [.ref (κ.2.1 + (o + 1)), .ref (κ.2.1 + (o + 36)), .ref (κ.2.1 + (o + 71)), .null, .null, .null, .int 0, .int 0]) :: ((([] ++ blkX1 κ (o + 1)) ++ blkX1 κ (o + 36)) ++ blkX3 κ (o + 71)))) from gB_set0 ho) ?_
  refine gb_aload_n (q := 38) (gDec iX10_init_ok 17 rfl) rfl rfl rfl ?_
  refine gb_new (q := 41) (o := o + 353) (ci := 9) (fs := [.null, .int 0]) (gB_len ho (by (simp only [List.length_cons, List.length_append, List.length_nil, blkX7_len, blkX0_len, blkX1_len, blkX2_len, blkX3_len, blkX4_len, blkX5_len, blkX6_len, blkX8_len, blkX9_len, blkX11_len]) <;> omega)) rfl gin9 gft9 wClRX10_26 wInRX9 wIiRX9 wDfX9 (Nat.le_of_ble_eq_true rfl) (Nat.le_of_ble_eq_true rfl) (gDec iX10_init_ok 18 rfl) rfl ?_
  refine gb_dup (q := 42) (gDec iX10_init_ok 19 rfl) rfl rfl ?_
  refine gb_callN (q := 45) (cs2 := 355) (sl2 := 29144) wKiRX10_28 (cb_X9 (κ := κ) (pre := (pre ++ (.inr (10, [.ref (κ.2.1 + (o + 1)), .ref (κ.2.1 + (o + 36)), .ref (κ.2.1 + (o + 71)), .null, .null, .null, .int 0, .int 0]) :: ((([] ++ blkX1 κ (o + 1)) ++ blkX1 κ (o + 36)) ++ blkX3 κ (o + 71))))) (o := o + 353) (gB_len ho (by (simp only [List.length_cons, List.length_append, List.length_nil, blkX7_len, blkX0_len, blkX1_len, blkX2_len, blkX3_len, blkX4_len, blkX5_len, blkX6_len, blkX8_len, blkX9_len, blkX11_len]) <;> omega))) (gDec iX10_init_ok 20 rfl) rfl rfl (Nat.le_of_ble_eq_true rfl) rfl rfl ⟨Nat.le_of_ble_eq_true rfl, Nat.le_of_ble_eq_true rfl, Nat.le_of_ble_eq_true rfl, Nat.le_of_ble_eq_true rfl⟩ rfl ?_
  refine gb_w (show _ = (pre ++ (.inr (10, [.ref (κ.2.1 + (o + 1)), .ref (κ.2.1 + (o + 36)), .ref (κ.2.1 + (o + 71)), .null, .null, .null, .int 0, .int 0]) :: (((([] ++ blkX1 κ (o + 1)) ++ blkX1 κ (o + 36)) ++ blkX3 κ (o + 71)) ++ blkX9 κ (o + 353)))) from List.append_assoc _ _ _) ?_
  refine gb_putF (q := 48) (k := 3) fX10_29 wFlRX10_29 gft10 (gDec iX10_init_ok 21 rfl) (gB_at0 ho) rfl rfl rfl rfl rfl (Nat.le_of_ble_eq_true rfl) rfl ?_
  refine gb_w (show _ = (pre ++ (.inr (10, [.ref (κ.2.1 + (o + 1)), .ref (κ.2.1 + (o + 36)), .ref (κ.2.1 + (o + 71)), .ref (κ.2.1 + (o + 353)), .null, .null, .int 0, .int 0]) :: (((([] ++ blkX1 κ (o + 1)) ++ blkX1 κ (o + 36)) ++ blkX3 κ (o + 71)) ++ blkX9 κ (o + 353)))) from gB_set0 ho) ?_
  refine gb_aload_n (q := 49) (gDec iX10_init_ok 22 rfl) rfl rfl rfl ?_
  refine gb_new (q := 52) (o := o + 356) (ci := 2) (fs := [.null, .null, .null, .int 0, .int 0, .int 0, .int 0, .int 0, .int 0, .int 0, .int 0, .int 0]) (gB_len ho (by (simp only [List.length_cons, List.length_append, List.length_nil, blkX7_len, blkX0_len, blkX1_len, blkX2_len, blkX3_len, blkX4_len, blkX5_len, blkX6_len, blkX8_len, blkX9_len, blkX11_len]) <;> omega)) rfl gin2 gft2 wClRX10_33 wInRX2 wIiRX2 wDfX2 (Nat.le_of_ble_eq_true rfl) (Nat.le_of_ble_eq_true rfl) (gDec iX10_init_ok 23 rfl) rfl ?_
  refine gb_dup (q := 53) (gDec iX10_init_ok 24 rfl) rfl rfl ?_
  refine gb_callN (q := 56) (cs2 := 362) (sl2 := 29339) wKiRX10_35 (cb_X2 (κ := κ) (pre := (pre ++ (.inr (10, [.ref (κ.2.1 + (o + 1)), .ref (κ.2.1 + (o + 36)), .ref (κ.2.1 + (o + 71)), .ref (κ.2.1 + (o + 353)), .null, .null, .int 0, .int 0]) :: (((([] ++ blkX1 κ (o + 1)) ++ blkX1 κ (o + 36)) ++ blkX3 κ (o + 71)) ++ blkX9 κ (o + 353))))) (o := o + 356) (gB_len ho (by (simp only [List.length_cons, List.length_append, List.length_nil, blkX7_len, blkX0_len, blkX1_len, blkX2_len, blkX3_len, blkX4_len, blkX5_len, blkX6_len, blkX8_len, blkX9_len, blkX11_len]) <;> omega))) (gDec iX10_init_ok 25 rfl) rfl rfl (Nat.le_of_ble_eq_true rfl) rfl rfl ⟨Nat.le_of_ble_eq_true rfl, Nat.le_of_ble_eq_true rfl, Nat.le_of_ble_eq_true rfl, Nat.le_of_ble_eq_true rfl⟩ rfl ?_
  refine gb_w (show _ = (pre ++ (.inr (10, [.ref (κ.2.1 + (o + 1)), .ref (κ.2.1 + (o + 36)), .ref (κ.2.1 + (o + 71)), .ref (κ.2.1 + (o + 353)), .null, .null, .int 0, .int 0]) :: ((((([] ++ blkX1 κ (o + 1)) ++ blkX1 κ (o + 36)) ++ blkX3 κ (o + 71)) ++ blkX9 κ (o + 353)) ++ blkX2 κ (o + 356)))) from List.append_assoc _ _ _) ?_
  refine gb_putF (q := 59) (k := 4) fX10_36 wFlRX10_36 gft10 (gDec iX10_init_ok 26 rfl) (gB_at0 ho) rfl rfl rfl rfl rfl (Nat.le_of_ble_eq_true rfl) rfl ?_
  refine gb_w (show _ = (pre ++ (.inr (10, [.ref (κ.2.1 + (o + 1)), .ref (κ.2.1 + (o + 36)), .ref (κ.2.1 + (o + 71)), .ref (κ.2.1 + (o + 353)), .ref (κ.2.1 + (o + 356)), .null, .int 0, .int 0]) :: ((((([] ++ blkX1 κ (o + 1)) ++ blkX1 κ (o + 36)) ++ blkX3 κ (o + 71)) ++ blkX9 κ (o + 353)) ++ blkX2 κ (o + 356)))) from gB_set0 ho) ?_
  refine gb_aload_n (q := 60) (gDec iX10_init_ok 27 rfl) rfl rfl rfl ?_
  refine gb_new (q := 63) (o := o + 363) (ci := 6) (fs := [.null, .null, .null, .null, .null, .null, .int 0, .int 0, .int 0, .int 0]) (gB_len ho (by (simp only [List.length_cons, List.length_append, List.length_nil, blkX7_len, blkX0_len, blkX1_len, blkX2_len, blkX3_len, blkX4_len, blkX5_len, blkX6_len, blkX8_len, blkX9_len, blkX11_len]) <;> omega)) rfl gin6 gft6 wClRX10_40 wInRX6 wIiRX6 wDfX6 (Nat.le_of_ble_eq_true rfl) (Nat.le_of_ble_eq_true rfl) (gDec iX10_init_ok 28 rfl) rfl ?_
  refine gb_dup (q := 64) (gDec iX10_init_ok 29 rfl) rfl rfl ?_
  refine gb_callN (q := 67) (cs2 := 375) (sl2 := 29715) wKiRX10_42 (cb_X6 (κ := κ) (pre := (pre ++ (.inr (10, [.ref (κ.2.1 + (o + 1)), .ref (κ.2.1 + (o + 36)), .ref (κ.2.1 + (o + 71)), .ref (κ.2.1 + (o + 353)), .ref (κ.2.1 + (o + 356)), .null, .int 0, .int 0]) :: ((((([] ++ blkX1 κ (o + 1)) ++ blkX1 κ (o + 36)) ++ blkX3 κ (o + 71)) ++ blkX9 κ (o + 353)) ++ blkX2 κ (o + 356))))) (o := o + 363) (gB_len ho (by (simp only [List.length_cons, List.length_append, List.length_nil, blkX7_len, blkX0_len, blkX1_len, blkX2_len, blkX3_len, blkX4_len, blkX5_len, blkX6_len, blkX8_len, blkX9_len, blkX11_len]) <;> omega))) (gDec iX10_init_ok 30 rfl) rfl rfl (Nat.le_of_ble_eq_true rfl) rfl rfl ⟨Nat.le_of_ble_eq_true rfl, Nat.le_of_ble_eq_true rfl, Nat.le_of_ble_eq_true rfl, Nat.le_of_ble_eq_true rfl⟩ rfl ?_
  refine gb_w (show _ = (pre ++ (.inr (10, [.ref (κ.2.1 + (o + 1)), .ref (κ.2.1 + (o + 36)), .ref (κ.2.1 + (o + 71)), .ref (κ.2.1 + (o + 353)), .ref (κ.2.1 + (o + 356)), .null, .int 0, .int 0]) :: (((((([] ++ blkX1 κ (o + 1)) ++ blkX1 κ (o + 36)) ++ blkX3 κ (o + 71)) ++ blkX9 κ (o + 353)) ++ blkX2 κ (o + 356)) ++ blkX6 κ (o + 363)))) from List.append_assoc _ _ _) ?_
  refine gb_putF (q := 70) (k := 5) fX10_43 wFlRX10_43 gft10 (gDec iX10_init_ok 31 rfl) (gB_at0 ho) rfl rfl rfl rfl rfl (Nat.le_of_ble_eq_true rfl) rfl ?_
  refine gb_w (show _ = (pre ++ (.inr (10, [.ref (κ.2.1 + (o + 1)), .ref (κ.2.1 + (o + 36)), .ref (κ.2.1 + (o + 71)), .ref (κ.2.1 + (o + 353)), .ref (κ.2.1 + (o + 356)), .ref (κ.2.1 + (o + 363)), .int 0, .int 0]) :: (((((([] ++ blkX1 κ (o + 1)) ++ blkX1 κ (o + 36)) ++ blkX3 κ (o + 71)) ++ blkX9 κ (o + 353)) ++ blkX2 κ (o + 356)) ++ blkX6 κ (o + 363)))) from gB_set0 ho) ?_
  refine gb_aload_n (q := 71) (gDec iX10_init_ok 32 rfl) rfl rfl rfl ?_
  refine gb_iconst (v := 0) (q := 72) (gDec iX10_init_ok 33 rfl) (by decide) rfl ?_
  refine gb_put (q := 75) (k := 6) fX10_47 wFlRX10_47 gft10 (gDec iX10_init_ok 34 rfl) (gB_at0 ho) rfl rfl rfl (Nat.le_of_ble_eq_true rfl) rfl ?_
  refine gb_w (show _ = (pre ++ (.inr (10, [.ref (κ.2.1 + (o + 1)), .ref (κ.2.1 + (o + 36)), .ref (κ.2.1 + (o + 71)), .ref (κ.2.1 + (o + 353)), .ref (κ.2.1 + (o + 356)), .ref (κ.2.1 + (o + 363)), .int 0, .int 0]) :: (((((([] ++ blkX1 κ (o + 1)) ++ blkX1 κ (o + 36)) ++ blkX3 κ (o + 71)) ++ blkX9 κ (o + 353)) ++ blkX2 κ (o + 356)) ++ blkX6 κ (o + 363)))) from gB_set0 ho) ?_
  refine gb_aload_n (q := 76) (gDec iX10_init_ok 35 rfl) rfl rfl rfl ?_
  refine gb_iconst (v := (-1)) (q := 77) (gDec iX10_init_ok 36 rfl) (by decide) rfl ?_
  refine gb_put (q := 80) (k := 7) fX10_51 wFlRX10_51 gft10 (gDec iX10_init_ok 37 rfl) (gB_at0 ho) rfl rfl rfl (Nat.le_of_ble_eq_true rfl) rfl ?_
  refine gb_w (show _ = (pre ++ (.inr (10, [.ref (κ.2.1 + (o + 1)), .ref (κ.2.1 + (o + 36)), .ref (κ.2.1 + (o + 71)), .ref (κ.2.1 + (o + 353)), .ref (κ.2.1 + (o + 356)), .ref (κ.2.1 + (o + 363)), .int 0, .int (-1)]) :: (((((([] ++ blkX1 κ (o + 1)) ++ blkX1 κ (o + 36)) ++ blkX3 κ (o + 71)) ++ blkX9 κ (o + 353)) ++ blkX2 κ (o + 356)) ++ blkX6 κ (o + 363)))) from gB_set0 ho) ?_
  exact gb_ret (gDec iX10_init_ok 38 rfl) rfl rfl
