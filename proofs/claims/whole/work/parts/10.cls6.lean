/-- a body of a method of the JDK: no native stands in its place -/
theorem ct_ofF {κ : gK} {M : gM} {d : Nat} {As : List Value} {σ σ' : gST} {o : gO} {k : Nat} {L : gL} (hy : plainFor M.1 = true) (hh : M.2.2.2.2 = []) (hn : (lg_sl As).length ≤ M.2.2.1) (hL : lv_args 0 As = L)
    (body : Go κ M (gRm d k) (gZm κ o σ' k) 0 L [] σ 0) : gCt κ M d As σ o σ' k := by
  subst hL
  obtain ⟨y, cc, maxL, ret, hs⟩ := M
  dsimp only at hh hn hy
  subst hh
  refine MetFree.of_bodySF (code := cc) (maxLocals := maxL) (ret := ret) hy ?_ ?_
  · intro args s m h hm
    obtain ⟨meth, c, h1, h2, h3, h4, h5, h6, -, -⟩ := Cond.code_spec hm (atoms_spec (ws := Cond.code y cc maxL ret :: gTg) h _ List.mem_cons_self)
    exact ⟨meth, c, h1, h2, h3, h4, h5, h6⟩
  · intro p e s m args below meth c s₁ B hml hP _
    obtain ⟨rfl, hG, hP⟩ := hP
    have hown : s.vm.findClass y.cls = some m.cls := findClass_of_methodNamed B.named
    have htb : c.exceptionTable.toList = tableOf [] := by
      obtain ⟨meth9, c9, h1, h2, -, -, -, -, h7, -⟩ := Cond.code_spec B.named (atoms_spec (ws := Cond.code y cc maxL ret :: gTg) B.pre _ List.mem_cons_self)
      cases Option.some.inj (h1.symm.trans B.method)
      cases Option.some.inj (h2.symm.trans (Stand.of_body B).code)
      have h8 := Array.isEmpty_iff.mp h7
      rw [h8]
      rfl
    have hh0 : s₁.heap = s.heap := by rw [B.state]; rfl
    have hW := body p e s m As.toArray below meth c s.heap [] _ ⟨B.exec, B.bytes, B.returns, hml, hown, B.notSynchronized, htb, hG⟩ hP va_S.rf (lv_entry As hn)
    rw [← lg_entry_eq] at hW
    obtain ⟨t, a1, o2, b1, b2, b3⟩ := hW s₁ hh0 (Stand.of_body B)
    exact ⟨t, o2, a1, b1, b2, b3⟩
theorem nI_dec (k : Nat) : nI (k + 1) + Int32.ofInt (-1) = nI k := by
  have h := nI_pred k
  rw [Int32.sub_eq_add_neg] at h
  exact h
theorem xor_sign (x y : Int32) (hy : 0 < y.toInt) : 0 ≤ (x ^^^ y) ↔ 0 ≤ x.toInt := by
  rw [Int32.le_iff_toInt_le]
  have e0 : (0 : Int32).toInt = 0 := by decide
  rw [e0]
  have h1 : (x ^^^ y).toBitVec.msb = (x.toBitVec.msb ^^ y.toBitVec.msb) := by rw [Int32.toBitVec_xor, BitVec.msb_xor]
  have h2 : y.toBitVec.msb = false := by rw [BitVec.msb_eq_toInt]; exact decide_eq_false (by show ¬ y.toInt < 0; omega)
  rw [h2, Bool.xor_false, BitVec.msb_eq_toInt, BitVec.msb_eq_toInt] at h1
  have h3 : ((x ^^^ y).toInt < 0) ↔ (x.toInt < 0) := by
    have h4 := decide_eq_decide.mp h1
    exact h4
  omega
theorem tdiv_np {a b : Int} (ha : a ≤ 0) (hb : 0 < b) : a.tdiv b ≤ 0 := by
  have h1 : 0 ≤ (-a).tdiv b := Int.tdiv_nonneg (by omega) (by omega)
  rw [Int.neg_tdiv] at h1
  omega
theorem fdiv_q {x y : Int32} (hy : 0 < y.toInt) : (x / y).toInt = x.toInt.tdiv y.toInt := by
  have hx1 := x.le_toInt
  have hx2 := x.toInt_lt
  rw [Int32.toInt_div]
  have h1 : (x.toInt.tdiv y.toInt).natAbs ≤ x.toInt.natAbs := by
    rw [Int.natAbs_tdiv]
    exact Nat.div_le_self _ _
  have h2 : ¬ (x.toInt.tdiv y.toInt = 2 ^ 31) := by
    intro h
    rcases (by omega : x.toInt < 0 ∨ 0 ≤ x.toInt) with h3 | h3
    · have h4 : x.toInt.tdiv y.toInt ≤ 0 := tdiv_np (by omega) hy
      omega
    · omega
  exact Int.bmod_eq_of_le_mul_two (by omega) (by omega)
theorem tdiv_floor {a b : Int} (hb : 0 < b) : a / b = if 0 ≤ a ∨ a.tdiv b * b = a then a.tdiv b else a.tdiv b - 1 := by
  rcases (by omega : a < 0 ∨ 0 ≤ a) with h | h
  · by_cases h2 : a.tdiv b * b = a
    · rw [if_pos (Or.inr h2)]
      have h3 : b ∣ a := ⟨a.tdiv b, by rw [Int.mul_comm]; exact h2.symm⟩
      exact (Int.tdiv_eq_ediv_of_dvd h3).symm
    · rw [if_neg (by omega)]
      have h5 : (-a).tdiv b = (-a) / b := Int.tdiv_eq_ediv_of_nonneg (by omega)
      rw [Int.neg_tdiv] at h5
      have h6 := (Int.ediv_eq_iff_of_pos (x := -a) hb).mp rfl
      rw [← h5, Int.neg_mul] at h6
      rw [Int.ediv_eq_iff_of_pos hb, Int.sub_mul, Int.one_mul]
      omega
  · rw [if_pos (Or.inl h)]
    exact (Int.tdiv_eq_ediv_of_nonneg h).symm
theorem fdiv_back {x y : Int32} (hy : 0 < y.toInt) : x / y * y = x ↔ x.toInt.tdiv y.toInt * y.toInt = x.toInt := by
  have hx1 := x.le_toInt
  have hx2 := x.toInt_lt
  rw [← Int32.toInt_inj, Int32.toInt_mul, fdiv_q hy]
  have h5 := Int.mul_tdiv_add_tmod x.toInt y.toInt
  have h10 : y.toInt * x.toInt.tdiv y.toInt = x.toInt.tdiv y.toInt * y.toInt := Int.mul_comm _ _
  have h1 : (x.toInt.tdiv y.toInt * y.toInt).natAbs ≤ x.toInt.natAbs := by
    rw [Int.natAbs_mul, Int.natAbs_tdiv]
    exact Nat.div_mul_le_self _ _
  by_cases h2 : x.toInt.tdiv y.toInt * y.toInt = 2 ^ 31
  · have h3 : ¬ 0 ≤ x.toInt := by omega
    have h4 : x.toInt.tdiv y.toInt ≤ 0 := tdiv_np (by omega) hy
    have h6 : x.toInt.tdiv y.toInt * y.toInt ≤ 0 := Int.mul_nonpos_of_nonpos_of_nonneg h4 (by omega)
    omega
  · rw [Int.bmod_eq_of_le_mul_two (by omega) (by omega)]
/-- floor of x / y -/
def gFl (x y : Int32) : Int32 := Int32.ofInt (x.toInt / y.toInt)
theorem gFl_1 {x y : Int32} (hy : 0 < y.toInt) (h : 0 ≤ x.toInt ∨ x / y * y = x) : gFl x y = x / y := by
  unfold gFl
  rw [tdiv_floor hy, if_pos (h.imp id (fdiv_back hy).mp), ← fdiv_q hy, Int32.ofInt_toInt]
theorem gFl_2 {x y : Int32} (hy : 0 < y.toInt) (h1 : ¬ 0 ≤ x.toInt) (h2 : ¬ x / y * y = x) : gFl x y = x / y - 1 := by
  unfold gFl
  rw [tdiv_floor hy, if_neg (fun h => h.elim h1 (fun h => h2 ((fdiv_back hy).mpr h))), ← fdiv_q hy, Int32.ofInt_sub, Int32.ofInt_toInt]
  rfl

set_option maxHeartbeats 4000000 in
set_option maxRecDepth 100000 in
theorem ctJ9_floorDiv_7cf53 {κ : gK} {σ : gST} {x y : Int32} (hy : 0 < y.toInt) : gCt κ mJ9_floorDiv_7cf53 0 [.int x, .int y] σ (.inl (some (.int (gFl x y)))) σ 0 := by
  refine ct_ofF (by decide +kernel) rfl (Nat.le_of_ble_eq_true rfl) rfl ?_
  refine go_iload_n (q := 1) (gDec iJ9_floorDiv_7cf53_ok 0 rfl) rfl rfl rfl ?_
  refine go_iload_n (q := 2) (gDec iJ9_floorDiv_7cf53_ok 1 rfl) rfl rfl rfl ?_
  refine go_idiv (q := 3) (gDec iJ9_floorDiv_7cf53_ok 2 rfl) (fun h => by rw [h] at hy; exact absurd hy (by decide)) rfl ?_
  refine go_istore_n (q := 4) (gDec iJ9_floorDiv_7cf53_ok 3 rfl) rfl (by decide) rfl ?_
  refine go_iload_n (q := 5) (gDec iJ9_floorDiv_7cf53_ok 4 rfl) rfl rfl rfl ?_
  refine go_iload_n (q := 6) (gDec iJ9_floorDiv_7cf53_ok 5 rfl) rfl rfl rfl ?_
  refine go_ixor (q := 7) (gDec iJ9_floorDiv_7cf53_ok 6 rfl) rfl ?_
  refine go_if_ge (t := 21) (q := 10) (gDec iJ9_floorDiv_7cf53_ok 7 rfl) (by decide) rfl (fun c7 => ?_) (fun c7 => ?_)
  · refine go_iload_n (q := 22) (gDec iJ9_floorDiv_7cf53_ok 17 rfl) rfl rfl rfl ?_
    exact go_ireturn (gDec iJ9_floorDiv_7cf53_ok 18 rfl) rfl rfl (by first | rw [gFl_1 hy (Or.inl ((xor_sign x y hy).mp c7))] | rw [gFl_1 hy (Or.inr c14)]) rfl (by decide)
  · refine go_iload_n (q := 11) (gDec iJ9_floorDiv_7cf53_ok 8 rfl) rfl rfl rfl ?_
    refine go_iload_n (q := 12) (gDec iJ9_floorDiv_7cf53_ok 9 rfl) rfl rfl rfl ?_
    refine go_imul (q := 13) (gDec iJ9_floorDiv_7cf53_ok 10 rfl) rfl ?_
    refine go_iload_n (q := 14) (gDec iJ9_floorDiv_7cf53_ok 11 rfl) rfl rfl rfl ?_
    refine go_icmp_eq (t := 21) (q := 17) (gDec iJ9_floorDiv_7cf53_ok 12 rfl) (by decide) rfl (fun c14 => ?_) (fun c14 => ?_)
    · refine go_iload_n (q := 22) (gDec iJ9_floorDiv_7cf53_ok 17 rfl) rfl rfl rfl ?_
      exact go_ireturn (gDec iJ9_floorDiv_7cf53_ok 18 rfl) rfl rfl (by first | rw [gFl_1 hy (Or.inl ((xor_sign x y hy).mp c7))] | rw [gFl_1 hy (Or.inr c14)]) rfl (by decide)
    · refine go_iload_n (q := 18) (gDec iJ9_floorDiv_7cf53_ok 13 rfl) rfl rfl rfl ?_
      refine go_iconst (v := 1) (q := 19) (gDec iJ9_floorDiv_7cf53_ok 14 rfl) (by decide) rfl ?_
      refine go_isub (q := 20) (gDec iJ9_floorDiv_7cf53_ok 15 rfl) rfl ?_
      exact go_ireturn (gDec iJ9_floorDiv_7cf53_ok 16 rfl) rfl rfl (by rw [gFl_2 hy (fun h => c7 ((xor_sign x y hy).mpr h)) c14]) rfl (by decide)

set_option maxHeartbeats 4000000 in
set_option maxRecDepth 100000 in
theorem ctX8_rounded {κ : gK} {σ : gST} {x z : Int32} : gCt κ mX8_rounded 1 [.int x, .int z] σ (.inl (some (.int (gFl (x * z + 500) 1000)))) σ 0 := by
  refine ct_of (by decide +kernel) rfl (Nat.le_of_ble_eq_true rfl) rfl ?_
  refine go_iload_n (q := 1) (gDec iX8_rounded_ok 0 rfl) rfl rfl rfl ?_
  refine go_iload_n (q := 2) (gDec iX8_rounded_ok 1 rfl) rfl rfl rfl ?_
  refine go_imul (q := 3) (gDec iX8_rounded_ok 2 rfl) rfl ?_
  refine go_sipush (v := 500) (q := 6) (gDec iX8_rounded_ok 3 rfl) (by decide) rfl ?_
  refine go_iadd (q := 7) (gDec iX8_rounded_ok 4 rfl) rfl ?_
  refine go_sipush (v := 1000) (q := 10) (gDec iX8_rounded_ok 5 rfl) (by decide) rfl ?_
  refine go_callS (n2 := 0) (q := 13) kX8_58 (ctJ9_floorDiv_7cf53 (by decide)) (gDec iX8_rounded_ok 6 rfl) rfl rfl (Nat.le_of_ble_eq_true rfl) rfl (gFit_rm (by decide) (by decide)) rfl ?_
  exact go_ireturn (gDec iX8_rounded_ok 7 rfl) rfl rfl rfl rfl (by decide)

set_option maxHeartbeats 4000000 in
set_option maxRecDepth 100000 in
theorem ctX8_countOf {κ : gK} {σ : gST} {g : Nat} (hg : g < 24) : gCt κ mX8_countOf 1 [.ref (κ.2.1 + 29), .int (nI g)] σ (.inl (some (.int (σ.1 31 g)))) σ 0 := by
  refine ct_of (by decide +kernel) rfl (Nat.le_of_ble_eq_true rfl) rfl ?_
  refine go_aload_n (q := 1) (gDec iX8_countOf_ok 0 rfl) rfl rfl rfl ?_
  refine go_getr (r' := 30) (q := 4) fX8_14 (gDec iX8_countOf_ok 1 rfl) rfl (by decide) rfl ?_
  refine go_iload_n (q := 5) (gDec iX8_countOf_ok 2 rfl) rfl rfl rfl ?_
  refine go_callV (n2 := 0) (q := 8) kX8_30 (ctX7_get (a := 31) rfl rfl (by decide) (by decide) (by omega) (by decide)) (gDec iX8_countOf_ok 3 rfl) rfl rfl (by decide) rfl rfl rfl (Nat.le_of_ble_eq_true rfl) rfl (gFit_rm (by decide) (by decide)) rfl ?_
  exact go_ireturn (gDec iX8_countOf_ok 4 rfl) rfl rfl rfl rfl (by decide)

set_option maxHeartbeats 4000000 in
set_option maxRecDepth 100000 in
theorem ctX8_leftOf {κ : gK} {σ : gST} {g k : Nat} (hg : g < 24) (hk : k < 4) : gCt κ mX8_leftOf 1 [.ref (κ.2.1 + 29), .int (nI g), .int (nI k)] σ (.inl (some (.int (σ.1 33 (g * 4 + k))))) σ 0 := by
  refine ct_of (by decide +kernel) rfl (Nat.le_of_ble_eq_true rfl) rfl ?_
  refine go_aload_n (q := 1) (gDec iX8_leftOf_ok 0 rfl) rfl rfl rfl ?_
  refine go_getr (r' := 32) (q := 4) fX8_20 (gDec iX8_leftOf_ok 1 rfl) rfl (by decide) rfl ?_
  refine go_iload_n (q := 5) (gDec iX8_leftOf_ok 2 rfl) rfl rfl rfl ?_
  refine go_iconst (v := 4) (q := 6) (gDec iX8_leftOf_ok 3 rfl) (by decide) rfl ?_
  refine go_imul (q := 7) (gDec iX8_leftOf_ok 4 rfl) rfl ?_
  refine go_iload_n (q := 8) (gDec iX8_leftOf_ok 5 rfl) rfl rfl rfl ?_
  refine go_iadd (q := 9) (gDec iX8_leftOf_ok 6 rfl) rfl ?_
  refine go_top (v' := nI (g * 4 + k)) (by rw [show (4 : Int32) = nI 4 from rfl, nI_mul, nI_add]) ?_
  refine go_callV (n2 := 0) (q := 12) kX8_30 (ctX7_get (a := 33) rfl rfl (by decide) (by decide) (by omega) (by decide)) (gDec iX8_leftOf_ok 7 rfl) rfl rfl (by decide) rfl rfl rfl (Nat.le_of_ble_eq_true rfl) rfl (gFit_rm (by decide) (by decide)) rfl ?_
  exact go_ireturn (gDec iX8_leftOf_ok 8 rfl) rfl rfl rfl rfl (by decide)

set_option maxHeartbeats 4000000 in
set_option maxRecDepth 100000 in
theorem ctX8_rightOf {κ : gK} {σ : gST} {g k : Nat} (hg : g < 24) (hk : k < 4) : gCt κ mX8_rightOf 1 [.ref (κ.2.1 + 29), .int (nI g), .int (nI k)] σ (.inl (some (.int (σ.1 35 (g * 4 + k))))) σ 0 := by
  refine ct_of (by decide +kernel) rfl (Nat.le_of_ble_eq_true rfl) rfl ?_
  refine go_aload_n (q := 1) (gDec iX8_rightOf_ok 0 rfl) rfl rfl rfl ?_
  refine go_getr (r' := 34) (q := 4) fX8_23 (gDec iX8_rightOf_ok 1 rfl) rfl (by decide) rfl ?_
  refine go_iload_n (q := 5) (gDec iX8_rightOf_ok 2 rfl) rfl rfl rfl ?_
  refine go_iconst (v := 4) (q := 6) (gDec iX8_rightOf_ok 3 rfl) (by decide) rfl ?_
  refine go_imul (q := 7) (gDec iX8_rightOf_ok 4 rfl) rfl ?_
  refine go_iload_n (q := 8) (gDec iX8_rightOf_ok 5 rfl) rfl rfl rfl ?_
  refine go_iadd (q := 9) (gDec iX8_rightOf_ok 6 rfl) rfl ?_
  refine go_top (v' := nI (g * 4 + k)) (by rw [show (4 : Int32) = nI 4 from rfl, nI_mul, nI_add]) ?_
  refine go_callV (n2 := 0) (q := 12) kX8_30 (ctX7_get (a := 35) rfl rfl (by decide) (by decide) (by omega) (by decide)) (gDec iX8_rightOf_ok 7 rfl) rfl rfl (by decide) rfl rfl rfl (Nat.le_of_ble_eq_true rfl) rfl (gFit_rm (by decide) (by decide)) rfl ?_
  exact go_ireturn (gDec iX8_rightOf_ok 8 rfl) rfl rfl rfl rfl (by decide)

set_option maxHeartbeats 4000000 in
set_option maxRecDepth 100000 in
theorem ctX8_put {κ : gK} {σ : gST} {g k : Nat} {x y : Int32} (hg : g < 24) (hk : k < 4) : gCt κ mX8_put 1 [.ref (κ.2.1 + 29), .int (nI g), .int (nI k), .int x, .int y] σ (.inl none) (gPut (gPut σ 33 (g * 4 + k) x) 35 (g * 4 + k) y) 0 := by
  refine ct_of (by decide +kernel) rfl (Nat.le_of_ble_eq_true rfl) rfl ?_
  refine go_aload_n (q := 1) (gDec iX8_put_ok 0 rfl) rfl rfl rfl ?_
  refine go_getr (r' := 32) (q := 4) fX8_20 (gDec iX8_put_ok 1 rfl) rfl (by decide) rfl ?_
  refine go_iload_n (q := 5) (gDec iX8_put_ok 2 rfl) rfl rfl rfl ?_
  refine go_iconst (v := 4) (q := 6) (gDec iX8_put_ok 3 rfl) (by decide) rfl ?_
  refine go_imul (q := 7) (gDec iX8_put_ok 4 rfl) rfl ?_
  refine go_iload_n (q := 8) (gDec iX8_put_ok 5 rfl) rfl rfl rfl ?_
  refine go_iadd (q := 9) (gDec iX8_put_ok 6 rfl) rfl ?_
  refine go_top (v' := nI (g * 4 + k)) (by rw [show (4 : Int32) = nI 4 from rfl, nI_mul, nI_add]) ?_
  refine go_iload_n (q := 10) (gDec iX8_put_ok 7 rfl) rfl rfl rfl ?_
  refine go_callV (n2 := 0) (q := 13) kX8_34 (ctX7_put (a := 33) rfl rfl (by decide) (by decide) (by omega) (by decide)) (gDec iX8_put_ok 8 rfl) rfl rfl (by decide) rfl rfl rfl (Nat.le_of_ble_eq_true rfl) rfl (gFit_rm (by decide) (by decide)) rfl ?_
  refine go_aload_n (q := 14) (gDec iX8_put_ok 9 rfl) rfl rfl rfl ?_
  refine go_getr (r' := 34) (q := 17) fX8_23 (gDec iX8_put_ok 10 rfl) rfl (by decide) rfl ?_
  refine go_iload_n (q := 18) (gDec iX8_put_ok 11 rfl) rfl rfl rfl ?_
  refine go_iconst (v := 4) (q := 19) (gDec iX8_put_ok 12 rfl) (by decide) rfl ?_
  refine go_imul (q := 20) (gDec iX8_put_ok 13 rfl) rfl ?_
  refine go_iload_n (q := 21) (gDec iX8_put_ok 14 rfl) rfl rfl rfl ?_
  refine go_iadd (q := 22) (gDec iX8_put_ok 15 rfl) rfl ?_
  refine go_top (v' := nI (g * 4 + k)) (by rw [show (4 : Int32) = nI 4 from rfl, nI_mul, nI_add]) ?_
  refine go_iload (q := 24) (gDec iX8_put_ok 16 rfl) rfl rfl ?_
  refine go_callV (n2 := 0) (q := 27) kX8_34 (ctX7_put (a := 35) rfl rfl (by decide) (by decide) (by omega) (by decide)) (gDec iX8_put_ok 17 rfl) rfl rfl (by decide) rfl rfl rfl (Nat.le_of_ble_eq_true rfl) rfl (gFit_rm (by decide) (by decide)) rfl ?_
  exact go_return (gDec iX8_put_ok 18 rfl) rfl rfl rfl (by decide)

set_option maxHeartbeats 4000000 in
set_option maxRecDepth 100000 in
theorem lpX8_sum {κ : gK} {Z : gZ} {σ : gST}  : ∀ (m i : Nat) (a : Int32), i + m = (23 + 1) → Go κ mX8_sum (gRm 2 0) Z 24 [(0, .ref (κ.2.1 + 29)), (1, .int (gLoop (fun g a => a + σ.1 31 g) i m a)), (2, .int (nI (23 + 1)))] [] σ 0 → Go κ mX8_sum (gRm 2 0) Z 4 [(0, .ref (κ.2.1 + 29)), (1, .int a), (2, .int (nI i))] [] σ 0 := by
  intro m
  induction m with
  | zero =>
    intro i a hi h
    have hiN : (23 + 1) = i := by omega
    rw [hiN] at h
    refine go_iload_n (q := 5) (gDec iX8_sum_ok 4 rfl) rfl rfl rfl ?_
    refine go_bipush (v := 24) (q := 7) (gDec iX8_sum_ok 5 rfl) (by decide) rfl ?_
    refine go_icmp_ge (t := 24) (q := 10) (gDec iX8_sum_ok 6 rfl) (by decide) rfl (fun c7 => ?_) (fun c7 => False.elim (c7 (nI_le (a := 24) (b := i) (by omega) (by omega))))
    refine go_sub (L' := [(0, .ref (κ.2.1 + 29)), (1, .int a), (2, .int (nI i))]) ⟨rfl, rfl, rfl, trivial⟩ ?_
    exact h
  | succ m ih =>
    intro i a hi h
    refine go_iload_n (q := 5) (gDec iX8_sum_ok 4 rfl) rfl rfl rfl ?_
    refine go_bipush (v := 24) (q := 7) (gDec iX8_sum_ok 5 rfl) (by decide) rfl ?_
    refine go_icmp_ge (t := 24) (q := 10) (gDec iX8_sum_ok 6 rfl) (by decide) rfl (fun c7 => False.elim (nI_ge (a := i) (b := 24) (by omega) (by decide) c7)) (fun c7 => ?_)
    refine go_iload_n (q := 11) (gDec iX8_sum_ok 7 rfl) rfl rfl rfl ?_
    refine go_aload_n (q := 12) (gDec iX8_sum_ok 8 rfl) rfl rfl rfl ?_
    refine go_iload_n (q := 13) (gDec iX8_sum_ok 9 rfl) rfl rfl rfl ?_
    refine go_callV (n2 := 0) (q := 16) kX8_37 (ctX8_countOf (by omega)) (gDec iX8_sum_ok 10 rfl) rfl rfl (by decide) rfl rfl rfl (Nat.le_of_ble_eq_true rfl) rfl (gFit_rm (by decide) (by decide)) rfl ?_
    refine go_iadd (q := 17) (gDec iX8_sum_ok 11 rfl) rfl ?_
    refine go_istore_n (q := 18) (gDec iX8_sum_ok 12 rfl) rfl (by decide) rfl ?_
    refine go_iinc (v := nI (i + 1)) (q := 21) (gDec iX8_sum_ok 13 rfl) rfl (nI_1 i) (by decide) rfl ?_
    refine go_goto (t := 4) (gDec iX8_sum_ok 14 rfl) (by decide) ?_
    refine go_sub (L' := [(0, .ref (κ.2.1 + 29)), (1, .int ((fun g a => a + σ.1 31 g) i a)), (2, .int (nI (i + 1)))]) ⟨rfl, rfl, rfl, trivial⟩ ?_
    exact ih (i + 1) ((fun g a => a + σ.1 31 g) i a) (by omega) h

set_option maxHeartbeats 4000000 in
set_option maxRecDepth 100000 in
theorem ctX8_sum {κ : gK} {σ : gST}  : gCt κ mX8_sum 2 [.ref (κ.2.1 + 29)] σ (.inl (some (.int (gLoop (fun g a => a + σ.1 31 g) 0 24 0)))) σ 0 := by
  refine ct_of (by decide +kernel) rfl (Nat.le_of_ble_eq_true rfl) rfl ?_
  refine go_iconst (v := 0) (q := 1) (gDec iX8_sum_ok 0 rfl) (by decide) rfl ?_
  refine go_istore_n (q := 2) (gDec iX8_sum_ok 1 rfl) rfl (by decide) rfl ?_
  refine go_iconst (v := 0) (q := 3) (gDec iX8_sum_ok 2 rfl) (by decide) rfl ?_
  refine go_istore_n (q := 4) (gDec iX8_sum_ok 3 rfl) rfl (by decide) rfl ?_
  refine go_sub (L' := [(0, .ref (κ.2.1 + 29)), (1, .int 0), (2, .int (nI 0))]) ⟨rfl, rfl, rfl, trivial⟩ ?_
  refine lpX8_sum 24 0 0 rfl ?_
  refine go_iload_n (q := 25) (gDec iX8_sum_ok 15 rfl) rfl rfl rfl ?_
  exact go_ireturn (gDec iX8_sum_ok 16 rfl) rfl rfl rfl rfl (by decide)

/-- whether a stem of m from i on is touched -/
def gTk (l r : Nat → Int32) (f t : Int32) (b : Nat) : Nat → Nat → Int32
  | _, 0 => 0
  | i, m + 1 => if f ≤ r (b + i) ∧ l (b + i) ≤ t then 1 else gTk l r f t b (i + 1) m

set_option maxHeartbeats 4000000 in
set_option maxRecDepth 100000 in
theorem lpX8_isTaken {κ : gK} {σ σ' : gST} {g N : Nat} {f t : Int32} {o : gO} (hg : g < 24) (hN : N ≤ 4) (hm : σ.1 31 g = nI N) (hσ : σ' = σ) : ∀ (m i : Nat), i + m = N → o = .inl (some (.int (gTk (σ.1 33) (σ.1 35) f t (g * 4) i m))) → Go κ mX8_isTaken (gRm 2 0) (gZm κ o σ' 0) 3 [(0, .ref (κ.2.1 + 29)), (1, .int (nI g)), (2, .int f), (3, .int t), (4, .int (nI i))] [] σ 0 := by
  intro m
  induction m with
  | zero =>
    intro i hi ho
    refine go_iload (q := 5) (gDec iX8_isTaken_ok 2 rfl) rfl rfl ?_
    refine go_aload_n (q := 6) (gDec iX8_isTaken_ok 3 rfl) rfl rfl rfl ?_
    refine go_iload_n (q := 7) (gDec iX8_isTaken_ok 4 rfl) rfl rfl rfl ?_
    refine go_callV (n2 := 0) (q := 10) kX8_37 (ctX8_countOf (by omega)) (gDec iX8_isTaken_ok 5 rfl) rfl rfl (by decide) rfl rfl rfl (Nat.le_of_ble_eq_true rfl) rfl (gFit_rm (by decide) (by decide)) rfl ?_
    refine go_icmp_ge (t := 43) (q := 13) (gDec iX8_isTaken_ok 6 rfl) (by decide) rfl (fun c10 => ?_) (fun c10 => False.elim (c10 (by rw [hm]; exact nI_le (by omega) (by omega))))
    refine go_iconst (v := 0) (q := 44) (gDec iX8_isTaken_ok 23 rfl) (by decide) rfl ?_
    exact go_ireturn (gDec iX8_isTaken_ok 24 rfl) rfl rfl ho hσ (by decide)
  | succ m ih =>
    intro i hi ho
    rw [gTk] at ho
    refine go_iload (q := 5) (gDec iX8_isTaken_ok 2 rfl) rfl rfl ?_
    refine go_aload_n (q := 6) (gDec iX8_isTaken_ok 3 rfl) rfl rfl rfl ?_
    refine go_iload_n (q := 7) (gDec iX8_isTaken_ok 4 rfl) rfl rfl rfl ?_
    refine go_callV (n2 := 0) (q := 10) kX8_37 (ctX8_countOf (by omega)) (gDec iX8_isTaken_ok 5 rfl) rfl rfl (by decide) rfl rfl rfl (Nat.le_of_ble_eq_true rfl) rfl (gFit_rm (by decide) (by decide)) rfl ?_
    refine go_icmp_ge (t := 43) (q := 13) (gDec iX8_isTaken_ok 6 rfl) (by decide) rfl (fun c10 => False.elim (by rw [hm] at c10; exact nI_ge (a := i) (b := N) (by omega) (by omega) c10)) (fun c10 => ?_)
    refine go_iload_n (q := 14) (gDec iX8_isTaken_ok 7 rfl) rfl rfl rfl ?_
    refine go_aload_n (q := 15) (gDec iX8_isTaken_ok 8 rfl) rfl rfl rfl ?_
    refine go_iload_n (q := 16) (gDec iX8_isTaken_ok 9 rfl) rfl rfl rfl ?_
    refine go_iload (q := 18) (gDec iX8_isTaken_ok 10 rfl) rfl rfl ?_
    refine go_callV (n2 := 0) (q := 21) kX8_40 (ctX8_rightOf (by omega) (by omega)) (gDec iX8_isTaken_ok 11 rfl) rfl rfl (by decide) rfl rfl rfl (Nat.le_of_ble_eq_true rfl) rfl (gFit_rm (by decide) (by decide)) rfl ?_
    refine go_icmp_gt (t := 37) (q := 24) (gDec iX8_isTaken_ok 12 rfl) (by decide) rfl (fun c21 => ?_) (fun c21 => ?_)
    · refine go_iinc (v := nI (i + 1)) (q := 40) (gDec iX8_isTaken_ok 21 rfl) rfl (nI_1 i) (by decide) rfl ?_
      refine go_goto (t := 3) (gDec iX8_isTaken_ok 22 rfl) (by decide) ?_
      refine go_sub (L' := [(0, .ref (κ.2.1 + 29)), (1, .int (nI g)), (2, .int f), (3, .int t), (4, .int (nI (i + 1)))]) ⟨rfl, rfl, rfl, rfl, rfl, trivial⟩ ?_
      exact ih (i + 1) (by omega) (ho.trans (by first | rw [if_neg (fun h => absurd c21 (Int32.not_lt.mpr h.1))] | rw [if_neg (fun h => absurd c32 (Int32.not_lt.mpr h.2))]))
    · refine go_iload_n (q := 25) (gDec iX8_isTaken_ok 13 rfl) rfl rfl rfl ?_
      refine go_aload_n (q := 26) (gDec iX8_isTaken_ok 14 rfl) rfl rfl rfl ?_
      refine go_iload_n (q := 27) (gDec iX8_isTaken_ok 15 rfl) rfl rfl rfl ?_
      refine go_iload (q := 29) (gDec iX8_isTaken_ok 16 rfl) rfl rfl ?_
      refine go_callV (n2 := 0) (q := 32) kX8_44 (ctX8_leftOf (by omega) (by omega)) (gDec iX8_isTaken_ok 17 rfl) rfl rfl (by decide) rfl rfl rfl (Nat.le_of_ble_eq_true rfl) rfl (gFit_rm (by decide) (by decide)) rfl ?_
      refine go_icmp_lt (t := 37) (q := 35) (gDec iX8_isTaken_ok 18 rfl) (by decide) rfl (fun c32 => ?_) (fun c32 => ?_)
      · refine go_iinc (v := nI (i + 1)) (q := 40) (gDec iX8_isTaken_ok 21 rfl) rfl (nI_1 i) (by decide) rfl ?_
        refine go_goto (t := 3) (gDec iX8_isTaken_ok 22 rfl) (by decide) ?_
        refine go_sub (L' := [(0, .ref (κ.2.1 + 29)), (1, .int (nI g)), (2, .int f), (3, .int t), (4, .int (nI (i + 1)))]) ⟨rfl, rfl, rfl, rfl, rfl, trivial⟩ ?_
        exact ih (i + 1) (by omega) (ho.trans (by first | rw [if_neg (fun h => absurd c21 (Int32.not_lt.mpr h.1))] | rw [if_neg (fun h => absurd c32 (Int32.not_lt.mpr h.2))]))
      · refine go_iconst (v := 1) (q := 36) (gDec iX8_isTaken_ok 19 rfl) (by decide) rfl ?_
        exact go_ireturn (gDec iX8_isTaken_ok 20 rfl) rfl rfl (ho.trans (by rw [if_pos ⟨Int32.not_lt.mp c21, Int32.not_lt.mp c32⟩])) hσ (by decide)

set_option maxHeartbeats 4000000 in
set_option maxRecDepth 100000 in
theorem ctX8_isTaken {κ : gK} {σ : gST} {g N : Nat} (hg : g < 24) (hN : N ≤ 4) (hm : σ.1 31 g = nI N) {f t : Int32} : gCt κ mX8_isTaken 2 [.ref (κ.2.1 + 29), .int (nI g), .int f, .int t] σ (.inl (some (.int (gTk (σ.1 33) (σ.1 35) f t (g * 4) 0 N)))) σ 0 := by
  refine ct_of (by decide +kernel) rfl (Nat.le_of_ble_eq_true rfl) rfl ?_
  refine go_iconst (v := 0) (q := 1) (gDec iX8_isTaken_ok 0 rfl) (by decide) rfl ?_
  refine go_istore (q := 3) (gDec iX8_isTaken_ok 1 rfl) (by decide) rfl ?_
  refine go_sub (L' := [(0, .ref (κ.2.1 + 29)), (1, .int (nI g)), (2, .int f), (3, .int t), (4, .int (nI 0))]) ⟨rfl, rfl, rfl, rfl, rfl, trivial⟩ ?_
  exact lpX8_isTaken hg hN hm rfl N 0 (by omega) rfl

/-- the place of a new stem among the first k -/
def gIp (l : Nat → Int32) (b : Nat) (f : Int32) : Nat → Nat
  | 0 => 0
  | k + 1 => if f < l (b + k) then gIp l b f k else k + 1
theorem gIp_le (l : Nat → Int32) (b : Nat) (f : Int32) : ∀ k, gIp l b f k ≤ k
  | 0 => Nat.le_refl 0
  | k + 1 => by
    unfold gIp
    split
    · exact Nat.le_succ_of_le (gIp_le l b f k)
    · exact Nat.le_refl _
/-- the places behind k, up to n, hold what stood one before -/
def gSf (l : Nat → Int32) (b k n : Nat) : Nat → Int32 := fun i => if b + k < i ∧ i ≤ b + n then l (i - 1) else l i
theorem gSf_n (l : Nat → Int32) (b n : Nat) : gSf l b n n = l := by
  funext i
  unfold gSf
  rw [if_neg (by omega)]
theorem gSf_put (l : Nat → Int32) (b k n : Nat) (h : k + 1 ≤ n) : upd (gSf l b (k + 1) n) (b + (k + 1)) (gSf l b (k + 1) n (b + k)) = gSf l b k n := by
  funext i
  unfold upd gSf
  by_cases h1 : i = b + (k + 1)
  · subst h1
    rw [if_pos rfl, if_neg (by omega), if_pos (by omega)]
    congr 1
  · rw [if_neg h1]
    by_cases h2 : b + (k + 1) < i ∧ i ≤ b + n
    · rw [if_pos h2, if_pos (by omega)]
    · rw [if_neg h2, if_neg (by omega)]
/-- the stems with those behind k moved on -/
def gS2f (σ : gST) (b k n : Nat) : gST := (gSA (gSA σ.1 33 (gSf (σ.1 33) b k n)) 35 (gSf (σ.1 35) b k n), σ.2)
theorem gS2f_n (σ : gST) (b n : Nat) : gS2f σ b n n = σ := by
  unfold gS2f
  rw [gSf_n, gSf_n]
  have h1 : ∀ f : Nat → Nat → Int32, ∀ k, gSA f k (f k) = f := by
    intro f k
    funext a
    unfold gSA
    split
    · rename_i h; rw [h]
    · rfl
  have h2 : gSA σ.1 33 (σ.1 33) = σ.1 := h1 _ _
  rw [h2]
  have h3 : gSA σ.1 35 (σ.1 35) = σ.1 := h1 _ _
  rw [h3]
theorem gSA_SA (f : Nat → Nat → Int32) (k : Nat) (g h : Nat → Int32) : gSA (gSA f k g) k h = gSA f k h := by
  funext a
  unfold gSA
  split <;> rfl
theorem gSA_comm (f : Nat → Nat → Int32) {k j : Nat} (g h : Nat → Int32) (hkj : k ≠ j) : gSA (gSA f k g) j h = gSA (gSA f j h) k g := by
  funext a
  unfold gSA
  by_cases h1 : a = j
  · have h2 : ¬ a = k := fun h => hkj (h.symm.trans h1)
    simp [h1, h2]
    exact fun h => absurd h.symm hkj
  · simp [h1]
theorem gS2f_put (σ : gST) (b k n : Nat) (h : k + 1 ≤ n) : gPut (gPut (gS2f σ b (k + 1) n) 33 (b + (k + 1)) ((gS2f σ b (k + 1) n).1 33 (b + k))) 35 (b + (k + 1)) ((gS2f σ b (k + 1) n).1 35 (b + k)) = gS2f σ b k n := by
  have e33 : (gS2f σ b (k + 1) n).1 33 = gSf (σ.1 33) b (k + 1) n := rfl
  have e35 : (gS2f σ b (k + 1) n).1 35 = gSf (σ.1 35) b (k + 1) n := rfl
  have h1 : gPut (gS2f σ b (k + 1) n) 33 (b + (k + 1)) ((gS2f σ b (k + 1) n).1 33 (b + k)) = (gSA (gSA σ.1 33 (gSf (σ.1 33) b k n)) 35 (gSf (σ.1 35) b (k + 1) n), σ.2) := by
    unfold gPut
    rw [e33, gSf_put (σ.1 33) b k n h]
    unfold gS2f
    show (gSA (gSA (gSA σ.1 33 _) 35 _) 33 _, σ.2) = _
    rw [gSA_comm (gSA σ.1 33 _) (k := 35) (j := 33) _ _ (by decide), gSA_SA]
  rw [h1, e35]
  unfold gPut
  dsimp only
  rw [gSA_self, gSf_put (σ.1 35) b k n h, gSA_SA]
  rfl
theorem nI_sub1 (k : Nat) : nI (k + 1) - 1 = nI k := nI_pred k

set_option maxHeartbeats 4000000 in
set_option maxRecDepth 100000 in
theorem lpX8_insert {κ : gK} {Z : gZ} {σ : gST} {g N : Nat} {f t : Int32} (hg : g < 24) (hN : N < 4) : ∀ (k : Nat), k ≤ N → Go κ mX8_insert (gRm 2 0) Z 56 [(0, .ref (κ.2.1 + 29)), (1, .int (nI g)), (2, .int f), (3, .int t), (4, .int (nI (gIp (σ.1 33) (g * 4) f k)))] [] (gS2f σ (g * 4) (gIp (σ.1 33) (g * 4) f k) N) 0 → Go κ mX8_insert (gRm 2 0) Z 7 [(0, .ref (κ.2.1 + 29)), (1, .int (nI g)), (2, .int f), (3, .int t), (4, .int (nI k))] [] (gS2f σ (g * 4) k N) 0 := by
  intro k
  induction k with
  | zero =>
    intro hk h
    refine go_iload (q := 9) (gDec iX8_insert_ok 4 rfl) rfl rfl ?_
    refine go_if_le (t := 56) (q := 12) (gDec iX8_insert_ok 5 rfl) (by decide) rfl (fun c9 => ?_) (fun c9 => False.elim (c9 (nI_le (a := 0) (b := 0) (by omega) (by decide))))
    refine go_sub (L' := [(0, .ref (κ.2.1 + 29)), (1, .int (nI g)), (2, .int f), (3, .int t), (4, .int (nI 0))]) ⟨rfl, rfl, rfl, rfl, rfl, trivial⟩ ?_
    exact h
  | succ k ih =>
    intro hk h
    have hl : (gS2f σ (g * 4) (k + 1) N).1 33 (g * 4 + k) = σ.1 33 (g * 4 + k) := by
      show gSf (σ.1 33) (g * 4) (k + 1) N (g * 4 + k) = _
      unfold gSf
      rw [if_neg (by omega)]
    unfold gIp at h
    by_cases hc : f < σ.1 33 (g * 4 + k)
    · rw [if_pos hc] at h
      refine go_iload (q := 9) (gDec iX8_insert_ok 4 rfl) rfl rfl ?_
      refine go_if_le (t := 56) (q := 12) (gDec iX8_insert_ok 5 rfl) (by decide) rfl (fun c9 => False.elim (nI_nle (n := k + 1) (by omega) (by omega) c9)) (fun c9 => ?_)
      refine go_aload_n (q := 13) (gDec iX8_insert_ok 6 rfl) rfl rfl rfl ?_
      refine go_iload_n (q := 14) (gDec iX8_insert_ok 7 rfl) rfl rfl rfl ?_
      refine go_iload (q := 16) (gDec iX8_insert_ok 8 rfl) rfl rfl ?_
      refine go_iconst (v := 1) (q := 17) (gDec iX8_insert_ok 9 rfl) (by decide) rfl ?_
      refine go_isub (q := 18) (gDec iX8_insert_ok 10 rfl) rfl ?_
      refine go_top (v' := nI k) (nI_pred k) ?_
      refine go_callV (n2 := 0) (q := 21) kX8_44 (ctX8_leftOf (k := k) (by omega) (by omega)) (gDec iX8_insert_ok 11 rfl) rfl rfl (by decide) rfl rfl rfl (Nat.le_of_ble_eq_true rfl) rfl (gFit_rm (by decide) (by decide)) rfl ?_
      refine go_iload_n (q := 22) (gDec iX8_insert_ok 12 rfl) rfl rfl rfl ?_
      refine go_icmp_le (t := 56) (q := 25) (gDec iX8_insert_ok 13 rfl) (by decide) rfl (fun c22 => False.elim (absurd hc (Int32.not_lt.mpr (by rw [hl] at c22; exact c22)))) (fun c22 => ?_)
      refine go_aload_n (q := 26) (gDec iX8_insert_ok 14 rfl) rfl rfl rfl ?_
      refine go_iload_n (q := 27) (gDec iX8_insert_ok 15 rfl) rfl rfl rfl ?_
      refine go_iload (q := 29) (gDec iX8_insert_ok 16 rfl) rfl rfl ?_
      refine go_aload_n (q := 30) (gDec iX8_insert_ok 17 rfl) rfl rfl rfl ?_
      refine go_iload_n (q := 31) (gDec iX8_insert_ok 18 rfl) rfl rfl rfl ?_
      refine go_iload (q := 33) (gDec iX8_insert_ok 19 rfl) rfl rfl ?_
      refine go_iconst (v := 1) (q := 34) (gDec iX8_insert_ok 20 rfl) (by decide) rfl ?_
      refine go_isub (q := 35) (gDec iX8_insert_ok 21 rfl) rfl ?_
      refine go_top (v' := nI k) (nI_pred k) ?_
      refine go_callV (n2 := 0) (q := 38) kX8_44 (ctX8_leftOf (k := k) (by omega) (by omega)) (gDec iX8_insert_ok 22 rfl) rfl rfl (by decide) rfl rfl rfl (Nat.le_of_ble_eq_true rfl) rfl (gFit_rm (by decide) (by decide)) rfl ?_
      refine go_aload_n (q := 39) (gDec iX8_insert_ok 23 rfl) rfl rfl rfl ?_
      refine go_iload_n (q := 40) (gDec iX8_insert_ok 24 rfl) rfl rfl rfl ?_
      refine go_iload (q := 42) (gDec iX8_insert_ok 25 rfl) rfl rfl ?_
      refine go_iconst (v := 1) (q := 43) (gDec iX8_insert_ok 26 rfl) (by decide) rfl ?_
      refine go_isub (q := 44) (gDec iX8_insert_ok 27 rfl) rfl ?_
      refine go_top (v' := nI k) (nI_pred k) ?_
      refine go_callV (n2 := 0) (q := 47) kX8_40 (ctX8_rightOf (k := k) (by omega) (by omega)) (gDec iX8_insert_ok 28 rfl) rfl rfl (by decide) rfl rfl rfl (Nat.le_of_ble_eq_true rfl) rfl (gFit_rm (by decide) (by decide)) rfl ?_
      refine go_callV (n2 := 0) (q := 50) kX8_47 (ctX8_put (k := k + 1) (by omega) (by omega)) (gDec iX8_insert_ok 29 rfl) rfl rfl (by decide) rfl rfl rfl (Nat.le_of_ble_eq_true rfl) rfl (gFit_rm (by decide) (by decide)) rfl ?_
      refine go_iinc (v := nI k) (q := 53) (gDec iX8_insert_ok 30 rfl) rfl (nI_dec k) (by decide) rfl ?_
      refine go_goto (t := 7) (gDec iX8_insert_ok 31 rfl) (by decide) ?_
      refine go_w (gS2f_put σ (g * 4) k N (by omega)) ?_
      refine go_sub (L' := [(0, .ref (κ.2.1 + 29)), (1, .int (nI g)), (2, .int f), (3, .int t), (4, .int (nI k))]) ⟨rfl, rfl, rfl, rfl, rfl, trivial⟩ ?_
      exact ih (by omega) h
    · rw [if_neg hc] at h
      refine go_iload (q := 9) (gDec iX8_insert_ok 4 rfl) rfl rfl ?_
      refine go_if_le (t := 56) (q := 12) (gDec iX8_insert_ok 5 rfl) (by decide) rfl (fun c9 => False.elim (nI_nle (n := k + 1) (by omega) (by omega) c9)) (fun c9 => ?_)
      refine go_aload_n (q := 13) (gDec iX8_insert_ok 6 rfl) rfl rfl rfl ?_
      refine go_iload_n (q := 14) (gDec iX8_insert_ok 7 rfl) rfl rfl rfl ?_
      refine go_iload (q := 16) (gDec iX8_insert_ok 8 rfl) rfl rfl ?_
      refine go_iconst (v := 1) (q := 17) (gDec iX8_insert_ok 9 rfl) (by decide) rfl ?_
      refine go_isub (q := 18) (gDec iX8_insert_ok 10 rfl) rfl ?_
      refine go_top (v' := nI k) (nI_pred k) ?_
      refine go_callV (n2 := 0) (q := 21) kX8_44 (ctX8_leftOf (k := k) (by omega) (by omega)) (gDec iX8_insert_ok 11 rfl) rfl rfl (by decide) rfl rfl rfl (Nat.le_of_ble_eq_true rfl) rfl (gFit_rm (by decide) (by decide)) rfl ?_
      refine go_iload_n (q := 22) (gDec iX8_insert_ok 12 rfl) rfl rfl rfl ?_
      refine go_icmp_le (t := 56) (q := 25) (gDec iX8_insert_ok 13 rfl) (by decide) rfl (fun c22 => ?_) (fun c22 => False.elim (c22 (by rw [hl]; exact Int32.not_lt.mp hc)))
      refine go_sub (L' := [(0, .ref (κ.2.1 + 29)), (1, .int (nI g)), (2, .int f), (3, .int t), (4, .int (nI (k + 1)))]) ⟨rfl, rfl, rfl, rfl, rfl, trivial⟩ ?_
      exact h

set_option maxHeartbeats 4000000 in
set_option maxRecDepth 100000 in
theorem ctX8_insert {κ : gK} {σ : gST} {g N : Nat} (hg : g < 24) (hN : N < 4) (hm : σ.1 31 g = nI N) {f t : Int32} : gCt κ mX8_insert 2 [.ref (κ.2.1 + 29), .int (nI g), .int f, .int t] σ (.inl (some (.int (nI (gIp (σ.1 33) (g * 4) f N))))) (gPut (gPut (gPut (gS2f σ (g * 4) (gIp (σ.1 33) (g * 4) f N) N) 33 (g * 4 + gIp (σ.1 33) (g * 4) f N) f) 35 (g * 4 + gIp (σ.1 33) (g * 4) f N) t) 31 g (nI (N + 1))) 0 := by
  refine ct_of (by decide +kernel) rfl (Nat.le_of_ble_eq_true rfl) rfl ?_
  refine go_aload_n (q := 1) (gDec iX8_insert_ok 0 rfl) rfl rfl rfl ?_
  refine go_iload_n (q := 2) (gDec iX8_insert_ok 1 rfl) rfl rfl rfl ?_
  refine go_callV (n2 := 0) (q := 5) kX8_37 (ctX8_countOf (by omega)) (gDec iX8_insert_ok 2 rfl) rfl rfl (by decide) rfl rfl rfl (Nat.le_of_ble_eq_true rfl) rfl (gFit_rm (by decide) (by decide)) rfl ?_
  refine go_top (v' := nI N) hm ?_
  refine go_istore (q := 7) (gDec iX8_insert_ok 3 rfl) (by decide) rfl ?_
  refine go_w (gS2f_n σ (g * 4) N).symm ?_
  refine go_sub (L' := [(0, .ref (κ.2.1 + 29)), (1, .int (nI g)), (2, .int f), (3, .int t), (4, .int (nI N))]) ⟨rfl, rfl, rfl, rfl, rfl, trivial⟩ ?_
  refine lpX8_insert hg hN N (Nat.le_refl _) ?_
  refine go_aload_n (q := 57) (gDec iX8_insert_ok 32 rfl) rfl rfl rfl ?_
  refine go_iload_n (q := 58) (gDec iX8_insert_ok 33 rfl) rfl rfl rfl ?_
  refine go_iload (q := 60) (gDec iX8_insert_ok 34 rfl) rfl rfl ?_
  refine go_iload_n (q := 61) (gDec iX8_insert_ok 35 rfl) rfl rfl rfl ?_
  refine go_iload_n (q := 62) (gDec iX8_insert_ok 36 rfl) rfl rfl rfl ?_
  refine go_callV (n2 := 0) (q := 65) kX8_47 (ctX8_put (by omega) (Nat.lt_of_le_of_lt (gIp_le _ _ _ _) hN)) (gDec iX8_insert_ok 37 rfl) rfl rfl (by decide) rfl rfl rfl (Nat.le_of_ble_eq_true rfl) rfl (gFit_rm (by decide) (by decide)) rfl ?_
  refine go_aload_n (q := 66) (gDec iX8_insert_ok 38 rfl) rfl rfl rfl ?_
  refine go_getr (r' := 30) (q := 69) fX8_14 (gDec iX8_insert_ok 39 rfl) rfl (by decide) rfl ?_
  refine go_iload_n (q := 70) (gDec iX8_insert_ok 40 rfl) rfl rfl rfl ?_
  refine go_aload_n (q := 71) (gDec iX8_insert_ok 41 rfl) rfl rfl rfl ?_
  refine go_iload_n (q := 72) (gDec iX8_insert_ok 42 rfl) rfl rfl rfl ?_
  refine go_callV (n2 := 0) (q := 75) kX8_37 (ctX8_countOf (g := g) (by omega)) (gDec iX8_insert_ok 43 rfl) rfl rfl (by decide) rfl rfl rfl (Nat.le_of_ble_eq_true rfl) rfl (gFit_rm (by decide) (by decide)) rfl ?_
  refine go_iconst (v := 1) (q := 76) (gDec iX8_insert_ok 44 rfl) (by decide) rfl ?_
  refine go_iadd (q := 77) (gDec iX8_insert_ok 45 rfl) rfl ?_
  refine go_top (v' := nI (N + 1)) ((congrArg (· + 1) hm).trans (nI_1 N)) ?_
  refine go_callV (n2 := 0) (q := 80) kX8_34 (ctX7_put (a := 31) rfl rfl (by decide) (by decide) (by omega) (by decide)) (gDec iX8_insert_ok 46 rfl) rfl rfl (by decide) rfl rfl rfl (Nat.le_of_ble_eq_true rfl) rfl (gFit_rm (by decide) (by decide)) rfl ?_
  refine go_iload (q := 82) (gDec iX8_insert_ok 47 rfl) rfl rfl ?_
  exact go_ireturn (gDec iX8_insert_ok 48 rfl) rfl rfl rfl rfl (by decide)

theorem nI_inc1 (k : Nat) : nI (k + 1) - 1 = nI k := nI_pred k
/-- the places from k on, up to i, hold what stood one behind -/
def gDl (l : Nat → Int32) (b k i : Nat) : Nat → Int32 := fun j => if b + k ≤ j ∧ j + 1 < b + i then l (j + 1) else l j
theorem gDl_0 (l : Nat → Int32) (b k : Nat) : gDl l b k (k + 1) = l := by
  funext j
  unfold gDl
  rw [if_neg (by omega)]
theorem gDl_at (l : Nat → Int32) (b k i : Nat) (h : k + 1 ≤ i) : gDl l b k i (b + i) = l (b + i) := by
  unfold gDl
  rw [if_neg (by omega)]
theorem gDl_put (l : Nat → Int32) (b k i : Nat) (h : k ≤ i) : upd (gDl l b k (i + 1)) (b + i) (gDl l b k (i + 1) (b + (i + 1))) = gDl l b k (i + 1 + 1) := by
  rw [gDl_at l b k (i + 1) (by omega)]
  funext j
  unfold upd gDl
  by_cases h1 : j = b + i
  · subst h1
    rw [if_pos rfl, if_pos (by omega)]
    congr 1
  · rw [if_neg h1]
    by_cases h2 : b + k ≤ j ∧ j + 1 < b + (i + 1)
    · rw [if_pos h2, if_pos (by omega)]
    · rw [if_neg h2, if_neg (by omega)]
def gS2d (σ : gST) (b k i : Nat) : gST := (gSA (gSA σ.1 33 (gDl (σ.1 33) b k i)) 35 (gDl (σ.1 35) b k i), σ.2)
theorem gSA_id (f : Nat → Nat → Int32) (k : Nat) : gSA f k (f k) = f := by
  funext a
  unfold gSA
  split
  · rename_i h; rw [h]
  · rfl
theorem gS2d_0 (σ : gST) (b k : Nat) : gS2d σ b k (k + 1) = σ := by
  unfold gS2d
  rw [gDl_0, gDl_0]
  have h2 : gSA σ.1 33 (σ.1 33) = σ.1 := gSA_id _ _
  rw [h2]
  have h3 : gSA σ.1 35 (σ.1 35) = σ.1 := gSA_id _ _
  rw [h3]
theorem gS2d_put (σ : gST) (b k i : Nat) (h : k ≤ i) : gPut (gPut (gS2d σ b k (i + 1)) 33 (b + i) ((gS2d σ b k (i + 1)).1 33 (b + (i + 1)))) 35 (b + i) ((gS2d σ b k (i + 1)).1 35 (b + (i + 1))) = gS2d σ b k (i + 1 + 1) := by
  have e33 : (gS2d σ b k (i + 1)).1 33 = gDl (σ.1 33) b k (i + 1) := rfl
  have e35 : (gS2d σ b k (i + 1)).1 35 = gDl (σ.1 35) b k (i + 1) := rfl
  have h1 : gPut (gS2d σ b k (i + 1)) 33 (b + i) ((gS2d σ b k (i + 1)).1 33 (b + (i + 1))) = (gSA (gSA σ.1 33 (gDl (σ.1 33) b k (i + 1 + 1))) 35 (gDl (σ.1 35) b k (i + 1)), σ.2) := by
    unfold gPut
    rw [e33, gDl_put (σ.1 33) b k i h]
    unfold gS2d
    show (gSA (gSA (gSA σ.1 33 _) 35 _) 33 _, σ.2) = _
    rw [gSA_comm (gSA σ.1 33 _) (k := 35) (j := 33) _ _ (by decide), gSA_SA]
  rw [h1, e35]
  unfold gPut
  dsimp only
  rw [gSA_self, gDl_put (σ.1 35) b k i h, gSA_SA]
  rfl

set_option maxHeartbeats 4000000 in
set_option maxRecDepth 100000 in
theorem lpX8_takeOut {κ : gK} {Z : gZ} {σ : gST} {g N k : Nat} {v : Int32} (hg : g < 24) (hN : N ≤ 4) (hm : σ.1 31 g = nI N) : ∀ (m i : Nat), k ≤ i → i + 1 + m = N → Go κ mX8_takeOut (gRm 2 0) Z 58 [(0, .ref (κ.2.1 + 29)), (1, .int (nI g)), (2, .int (nI k)), (3, .int v), (4, .int (nI N))] [] (gS2d σ (g * 4) k N) 0 → Go κ mX8_takeOut (gRm 2 0) Z 19 [(0, .ref (κ.2.1 + 29)), (1, .int (nI g)), (2, .int (nI k)), (3, .int v), (4, .int (nI (i + 1)))] [] (gS2d σ (g * 4) k (i + 1)) 0 := by
  intro m
  induction m with
  | zero =>
    intro i hk hi h
    have hiN : N = i + 1 := by omega
    rw [hiN] at h
    have hm2 : (gS2d σ (g * 4) k (i + 1)).1 31 g = nI N := hm
    refine go_iload (q := 21) (gDec iX8_takeOut_ok 14 rfl) rfl rfl ?_
    refine go_aload_n (q := 22) (gDec iX8_takeOut_ok 15 rfl) rfl rfl rfl ?_
    refine go_iload_n (q := 23) (gDec iX8_takeOut_ok 16 rfl) rfl rfl rfl ?_
    refine go_callV (n2 := 0) (q := 26) kX8_37 (ctX8_countOf (by omega)) (gDec iX8_takeOut_ok 17 rfl) rfl rfl (by decide) rfl rfl rfl (Nat.le_of_ble_eq_true rfl) rfl (gFit_rm (by decide) (by decide)) rfl ?_
    refine go_icmp_ge (t := 58) (q := 29) (gDec iX8_takeOut_ok 18 rfl) (by decide) rfl (fun c26 => ?_) (fun c26 => False.elim (c26 (by rw [hm2]; exact nI_le (by omega) (by omega))))
    refine go_sub (L' := [(0, .ref (κ.2.1 + 29)), (1, .int (nI g)), (2, .int (nI k)), (3, .int v), (4, .int (nI (i + 1)))]) ⟨rfl, rfl, rfl, rfl, rfl, trivial⟩ ?_
    exact h
  | succ m ih =>
    intro i hk hi h
    have hm2 : (gS2d σ (g * 4) k (i + 1)).1 31 g = nI N := hm
    refine go_iload (q := 21) (gDec iX8_takeOut_ok 14 rfl) rfl rfl ?_
    refine go_aload_n (q := 22) (gDec iX8_takeOut_ok 15 rfl) rfl rfl rfl ?_
    refine go_iload_n (q := 23) (gDec iX8_takeOut_ok 16 rfl) rfl rfl rfl ?_
    refine go_callV (n2 := 0) (q := 26) kX8_37 (ctX8_countOf (by omega)) (gDec iX8_takeOut_ok 17 rfl) rfl rfl (by decide) rfl rfl rfl (Nat.le_of_ble_eq_true rfl) rfl (gFit_rm (by decide) (by decide)) rfl ?_
    refine go_icmp_ge (t := 58) (q := 29) (gDec iX8_takeOut_ok 18 rfl) (by decide) rfl (fun c26 => False.elim (by rw [hm2] at c26; exact nI_ge (a := i + 1) (b := N) (by omega) (by omega) c26)) (fun c26 => ?_)
    refine go_aload_n (q := 30) (gDec iX8_takeOut_ok 19 rfl) rfl rfl rfl ?_
    refine go_iload_n (q := 31) (gDec iX8_takeOut_ok 20 rfl) rfl rfl rfl ?_
    refine go_iload (q := 33) (gDec iX8_takeOut_ok 21 rfl) rfl rfl ?_
    refine go_iconst (v := 1) (q := 34) (gDec iX8_takeOut_ok 22 rfl) (by decide) rfl ?_
    refine go_isub (q := 35) (gDec iX8_takeOut_ok 23 rfl) rfl ?_
    refine go_top (v' := nI i) (nI_pred i) ?_
    refine go_aload_n (q := 36) (gDec iX8_takeOut_ok 24 rfl) rfl rfl rfl ?_
    refine go_iload_n (q := 37) (gDec iX8_takeOut_ok 25 rfl) rfl rfl rfl ?_
    refine go_iload (q := 39) (gDec iX8_takeOut_ok 26 rfl) rfl rfl ?_
    refine go_callV (n2 := 0) (q := 42) kX8_44 (ctX8_leftOf (k := i + 1) (by omega) (by omega)) (gDec iX8_takeOut_ok 27 rfl) rfl rfl (by decide) rfl rfl rfl (Nat.le_of_ble_eq_true rfl) rfl (gFit_rm (by decide) (by decide)) rfl ?_
    refine go_aload_n (q := 43) (gDec iX8_takeOut_ok 28 rfl) rfl rfl rfl ?_
    refine go_iload_n (q := 44) (gDec iX8_takeOut_ok 29 rfl) rfl rfl rfl ?_
    refine go_iload (q := 46) (gDec iX8_takeOut_ok 30 rfl) rfl rfl ?_
    refine go_callV (n2 := 0) (q := 49) kX8_40 (ctX8_rightOf (k := i + 1) (by omega) (by omega)) (gDec iX8_takeOut_ok 31 rfl) rfl rfl (by decide) rfl rfl rfl (Nat.le_of_ble_eq_true rfl) rfl (gFit_rm (by decide) (by decide)) rfl ?_
    refine go_callV (n2 := 0) (q := 52) kX8_47 (ctX8_put (k := i) (by omega) (by omega)) (gDec iX8_takeOut_ok 32 rfl) rfl rfl (by decide) rfl rfl rfl (Nat.le_of_ble_eq_true rfl) rfl (gFit_rm (by decide) (by decide)) rfl ?_
    refine go_iinc (v := nI (i + 1 + 1)) (q := 55) (gDec iX8_takeOut_ok 33 rfl) rfl (nI_1 (i + 1)) (by decide) rfl ?_
    refine go_goto (t := 19) (gDec iX8_takeOut_ok 34 rfl) (by decide) ?_
    refine go_w (gS2d_put σ (g * 4) k i hk) ?_
    refine go_sub (L' := [(0, .ref (κ.2.1 + 29)), (1, .int (nI g)), (2, .int (nI k)), (3, .int v), (4, .int (nI (i + 1 + 1)))]) ⟨rfl, rfl, rfl, rfl, rfl, trivial⟩ ?_
    exact ih (i + 1) (by omega) (by omega) h

set_option maxHeartbeats 4000000 in
set_option maxRecDepth 100000 in
theorem ctX8_takeOut {κ : gK} {σ : gST} {g n k : Nat} (hg : g < 24) (hN : n < 4) (hk : k ≤ n) (hm : σ.1 31 g = nI (n + 1)) : gCt κ mX8_takeOut 2 [.ref (κ.2.1 + 29), .int (nI g), .int (nI k)] σ (.inl (some (.int (σ.1 35 (g * 4 + k) - σ.1 33 (g * 4 + k))))) (gPut (gS2d σ (g * 4) k (n + 1)) 31 g (nI n)) 0 := by
  refine ct_of (by decide +kernel) rfl (Nat.le_of_ble_eq_true rfl) rfl ?_
  refine go_aload_n (q := 1) (gDec iX8_takeOut_ok 0 rfl) rfl rfl rfl ?_
  refine go_iload_n (q := 2) (gDec iX8_takeOut_ok 1 rfl) rfl rfl rfl ?_
  refine go_iload_n (q := 3) (gDec iX8_takeOut_ok 2 rfl) rfl rfl rfl ?_
  refine go_callV (n2 := 0) (q := 6) kX8_40 (ctX8_rightOf (by omega) (by omega)) (gDec iX8_takeOut_ok 3 rfl) rfl rfl (by decide) rfl rfl rfl (Nat.le_of_ble_eq_true rfl) rfl (gFit_rm (by decide) (by decide)) rfl ?_
  refine go_aload_n (q := 7) (gDec iX8_takeOut_ok 4 rfl) rfl rfl rfl ?_
  refine go_iload_n (q := 8) (gDec iX8_takeOut_ok 5 rfl) rfl rfl rfl ?_
  refine go_iload_n (q := 9) (gDec iX8_takeOut_ok 6 rfl) rfl rfl rfl ?_
  refine go_callV (n2 := 0) (q := 12) kX8_44 (ctX8_leftOf (by omega) (by omega)) (gDec iX8_takeOut_ok 7 rfl) rfl rfl (by decide) rfl rfl rfl (Nat.le_of_ble_eq_true rfl) rfl (gFit_rm (by decide) (by decide)) rfl ?_
  refine go_isub (q := 13) (gDec iX8_takeOut_ok 8 rfl) rfl ?_
  refine go_istore_n (q := 14) (gDec iX8_takeOut_ok 9 rfl) rfl (by decide) rfl ?_
  refine go_iload_n (q := 15) (gDec iX8_takeOut_ok 10 rfl) rfl rfl rfl ?_
  refine go_iconst (v := 1) (q := 16) (gDec iX8_takeOut_ok 11 rfl) (by decide) rfl ?_
  refine go_iadd (q := 17) (gDec iX8_takeOut_ok 12 rfl) rfl ?_
  refine go_top (v' := nI (k + 1)) (nI_1 k) ?_
  refine go_istore (q := 19) (gDec iX8_takeOut_ok 13 rfl) (by decide) rfl ?_
  refine go_w (gS2d_0 σ (g * 4) k).symm ?_
  refine go_sub (L' := [(0, .ref (κ.2.1 + 29)), (1, .int (nI g)), (2, .int (nI k)), (3, .int (σ.1 35 (g * 4 + k) - σ.1 33 (g * 4 + k))), (4, .int (nI (k + 1)))]) ⟨rfl, rfl, rfl, rfl, rfl, trivial⟩ ?_
  refine lpX8_takeOut hg (by omega) hm (n - k) k (Nat.le_refl _) (by omega) ?_
  refine go_aload_n (q := 59) (gDec iX8_takeOut_ok 35 rfl) rfl rfl rfl ?_
  refine go_getr (r' := 30) (q := 62) fX8_14 (gDec iX8_takeOut_ok 36 rfl) rfl (by decide) rfl ?_
  refine go_iload_n (q := 63) (gDec iX8_takeOut_ok 37 rfl) rfl rfl rfl ?_
  refine go_aload_n (q := 64) (gDec iX8_takeOut_ok 38 rfl) rfl rfl rfl ?_
  refine go_iload_n (q := 65) (gDec iX8_takeOut_ok 39 rfl) rfl rfl rfl ?_
  refine go_callV (n2 := 0) (q := 68) kX8_37 (ctX8_countOf (g := g) (by omega)) (gDec iX8_takeOut_ok 40 rfl) rfl rfl (by decide) rfl rfl rfl (Nat.le_of_ble_eq_true rfl) rfl (gFit_rm (by decide) (by decide)) rfl ?_
  refine go_iconst (v := 1) (q := 69) (gDec iX8_takeOut_ok 41 rfl) (by decide) rfl ?_
  refine go_isub (q := 70) (gDec iX8_takeOut_ok 42 rfl) rfl ?_
  refine go_top (v' := nI n) ((congrArg (· - 1) hm).trans (nI_pred n)) ?_
  refine go_callV (n2 := 0) (q := 73) kX8_34 (ctX7_put (a := 31) rfl rfl (by decide) (by decide) (by omega) (by decide)) (gDec iX8_takeOut_ok 43 rfl) rfl rfl (by decide) rfl rfl rfl (Nat.le_of_ble_eq_true rfl) rfl (gFit_rm (by decide) (by decide)) rfl ?_
  refine go_iload_n (q := 74) (gDec iX8_takeOut_ok 44 rfl) rfl rfl rfl ?_
  exact go_ireturn (gDec iX8_takeOut_ok 45 rfl) rfl rfl rfl rfl (by decide)

/-- where a coordinate goes: the stems from i on, m of them; e the end of the stem before, s the shift -/
def gPl (l r : Nat → Int32) (v z : Int32) (b : Nat) : Nat → Nat → Int32 → Int32 → Int32
  | _, 0, _, s => gFl (v * z + 500) 1000 + s
  | i, m + 1, e, s =>
    let L := l (b + i)
    let R := r (b + i)
    let a := if i = 0 then gFl (L * z + 500) 1000 else (if gFl (L * z + 500) 1000 < e + 1 then e + 1 else gFl (L * z + 500) 1000)
    let e2 := a + (if gFl ((R - L) * z + 500) 1000 < 1 then 1 else gFl ((R - L) * z + 500) 1000)
    if v = L then a else if v = R then e2 else gPl l r v z b (i + 1) m e2 (if R < v then e2 - gFl (R * z + 500) 1000 else if L < v then a - gFl (L * z + 500) 1000 else s)

set_option maxHeartbeats 4000000 in
set_option maxRecDepth 100000 in
theorem lpX8_place2 {κ : gK} {σ σ' : gST} {g i m : Nat} {v z e sh A B : Int32} {o : gO} (hg : g < 24) (hi : i < 4) (hσ : σ' = σ) (hB : B = A + (if gFl ((σ.1 35 (g * 4 + i) - σ.1 33 (g * 4 + i)) * z + 500) 1000 < 1 then 1 else gFl ((σ.1 35 (g * 4 + i) - σ.1 33 (g * 4 + i)) * z + 500) 1000))
    (ih : ∀ (e2 s2 : Int32), o = .inl (some (.int (gPl (σ.1 33) (σ.1 35) v z (g * 4) (i + 1) m e2 s2))) → Go κ mX8_placeOn (gRm 2 0) (gZm κ o σ' 0) 9 [(0, .ref (κ.2.1 + 29)), (1, .int (nI g)), (2, .int z), (3, .int v), (4, .int e2), (5, .int s2), (6, .int (nI (i + 1)))] [] σ 0) (ho : o = .inl (some (.int (if v = σ.1 33 (g * 4 + i) then A else if v = σ.1 35 (g * 4 + i) then B else gPl (σ.1 33) (σ.1 35) v z (g * 4) (i + 1) m B (if σ.1 35 (g * 4 + i) < v then B - gFl (σ.1 35 (g * 4 + i) * z + 500) 1000 else if σ.1 33 (g * 4 + i) < v then A - gFl (σ.1 33 (g * 4 + i) * z + 500) 1000 else sh))))) :
    Go κ mX8_placeOn (gRm 2 0) (gZm κ o σ' 0) 61 [(0, .ref (κ.2.1 + 29)), (1, .int (nI g)), (2, .int z), (3, .int v), (6, .int (nI i)), (7, .int (σ.1 33 (g * 4 + i))), (8, .int (σ.1 35 (g * 4 + i))), (4, .int e), (5, .int sh), (9, .int A)] [] σ 0 := by
  refine go_iload (q := 63) (gDec iX8_placeOn_ok 33 rfl) rfl rfl ?_
  refine go_iload (q := 65) (gDec iX8_placeOn_ok 34 rfl) rfl rfl ?_
  refine go_iload (q := 67) (gDec iX8_placeOn_ok 35 rfl) rfl rfl ?_
  refine go_isub (q := 68) (gDec iX8_placeOn_ok 36 rfl) rfl ?_
  refine go_iload_n (q := 69) (gDec iX8_placeOn_ok 37 rfl) rfl rfl rfl ?_
  refine go_callS (n2 := 0) (q := 72) kX8_50 ctX8_rounded (gDec iX8_placeOn_ok 38 rfl) rfl rfl (Nat.le_of_ble_eq_true rfl) rfl (gFit_rm (by decide) (by decide)) rfl ?_
  refine go_iconst (v := 1) (q := 73) (gDec iX8_placeOn_ok 39 rfl) (by decide) rfl ?_
  refine go_max (q := 76) kX8_53 (gDec iX8_placeOn_ok 40 rfl) (Nat.le_of_ble_eq_true rfl) (gFit_rm (by decide) (by decide)) rfl ?_
  refine go_iadd (q := 77) (gDec iX8_placeOn_ok 41 rfl) rfl ?_
  refine go_top (v' := B) hB.symm ?_
  refine go_istore (q := 79) (gDec iX8_placeOn_ok 42 rfl) (by decide) rfl ?_
  refine go_iload_n (q := 80) (gDec iX8_placeOn_ok 43 rfl) rfl rfl rfl ?_
  refine go_iload (q := 82) (gDec iX8_placeOn_ok 44 rfl) rfl rfl ?_
  refine go_icmp_ne (t := 88) (q := 85) (gDec iX8_placeOn_ok 45 rfl) (by decide) rfl (fun c82 => ?_) (fun c82 => ?_)
  · refine go_iload_n (q := 89) (gDec iX8_placeOn_ok 48 rfl) rfl rfl rfl ?_
    refine go_iload (q := 91) (gDec iX8_placeOn_ok 49 rfl) rfl rfl ?_
    refine go_icmp_ne (t := 97) (q := 94) (gDec iX8_placeOn_ok 50 rfl) (by decide) rfl (fun c91 => ?_) (fun c91 => ?_)
    · refine go_iload (q := 99) (gDec iX8_placeOn_ok 53 rfl) rfl rfl ?_
      refine go_iload_n (q := 100) (gDec iX8_placeOn_ok 54 rfl) rfl rfl rfl ?_
      refine go_icmp_ge (t := 114) (q := 103) (gDec iX8_placeOn_ok 55 rfl) (by decide) rfl (fun c100 => ?_) (fun c100 => ?_)
      · refine go_iload (q := 116) (gDec iX8_placeOn_ok 62 rfl) rfl rfl ?_
        refine go_iload_n (q := 117) (gDec iX8_placeOn_ok 63 rfl) rfl rfl rfl ?_
        refine go_icmp_ge (t := 131) (q := 120) (gDec iX8_placeOn_ok 64 rfl) (by decide) rfl (fun c117 => ?_) (fun c117 => ?_)
        · refine go_iinc (v := nI (i + 1)) (q := 134) (gDec iX8_placeOn_ok 71 rfl) rfl (nI_1 i) (by decide) rfl ?_
          refine go_goto (t := 9) (gDec iX8_placeOn_ok 72 rfl) (by decide) ?_
          exact go_sub (L' := [(0, .ref (κ.2.1 + 29)), (1, .int (nI g)), (2, .int z), (3, .int v), (4, .int _), (5, .int _), (6, .int (nI (i + 1)))]) ⟨rfl, rfl, rfl, rfl, rfl, rfl, rfl, trivial⟩ (ih _ _ (ho.trans (by first | rw [if_neg c82, if_neg c91, if_pos (Int32.not_le.mp c117)] | rw [if_neg c82, if_neg c91, if_neg (fun h9 => absurd c117 (Int32.not_le.mpr h9)), if_pos (Int32.not_le.mp c100)] | rw [if_neg c82, if_neg c91, if_neg (fun h9 => absurd c117 (Int32.not_le.mpr h9)), if_neg (fun h9 => absurd c100 (Int32.not_le.mpr h9))])))
        · refine go_iload (q := 122) (gDec iX8_placeOn_ok 65 rfl) rfl rfl ?_
          refine go_iload (q := 124) (gDec iX8_placeOn_ok 66 rfl) rfl rfl ?_
          refine go_iload_n (q := 125) (gDec iX8_placeOn_ok 67 rfl) rfl rfl rfl ?_
          refine go_callS (n2 := 0) (q := 128) kX8_50 ctX8_rounded (gDec iX8_placeOn_ok 68 rfl) rfl rfl (Nat.le_of_ble_eq_true rfl) rfl (gFit_rm (by decide) (by decide)) rfl ?_
          refine go_isub (q := 129) (gDec iX8_placeOn_ok 69 rfl) rfl ?_
          refine go_istore (q := 131) (gDec iX8_placeOn_ok 70 rfl) (by decide) rfl ?_
          refine go_iinc (v := nI (i + 1)) (q := 134) (gDec iX8_placeOn_ok 71 rfl) rfl (nI_1 i) (by decide) rfl ?_
          refine go_goto (t := 9) (gDec iX8_placeOn_ok 72 rfl) (by decide) ?_
          exact go_sub (L' := [(0, .ref (κ.2.1 + 29)), (1, .int (nI g)), (2, .int z), (3, .int v), (4, .int _), (5, .int _), (6, .int (nI (i + 1)))]) ⟨rfl, rfl, rfl, rfl, rfl, rfl, rfl, trivial⟩ (ih _ _ (ho.trans (by first | rw [if_neg c82, if_neg c91, if_pos (Int32.not_le.mp c117)] | rw [if_neg c82, if_neg c91, if_neg (fun h9 => absurd c117 (Int32.not_le.mpr h9)), if_pos (Int32.not_le.mp c100)] | rw [if_neg c82, if_neg c91, if_neg (fun h9 => absurd c117 (Int32.not_le.mpr h9)), if_neg (fun h9 => absurd c100 (Int32.not_le.mpr h9))])))
      · refine go_iload (q := 105) (gDec iX8_placeOn_ok 56 rfl) rfl rfl ?_
        refine go_iload (q := 107) (gDec iX8_placeOn_ok 57 rfl) rfl rfl ?_
        refine go_iload_n (q := 108) (gDec iX8_placeOn_ok 58 rfl) rfl rfl rfl ?_
        refine go_callS (n2 := 0) (q := 111) kX8_50 ctX8_rounded (gDec iX8_placeOn_ok 59 rfl) rfl rfl (Nat.le_of_ble_eq_true rfl) rfl (gFit_rm (by decide) (by decide)) rfl ?_
        refine go_isub (q := 112) (gDec iX8_placeOn_ok 60 rfl) rfl ?_
        refine go_istore (q := 114) (gDec iX8_placeOn_ok 61 rfl) (by decide) rfl ?_
        refine go_iload (q := 116) (gDec iX8_placeOn_ok 62 rfl) rfl rfl ?_
        refine go_iload_n (q := 117) (gDec iX8_placeOn_ok 63 rfl) rfl rfl rfl ?_
        refine go_icmp_ge (t := 131) (q := 120) (gDec iX8_placeOn_ok 64 rfl) (by decide) rfl (fun c117 => ?_) (fun c117 => ?_)
        · refine go_iinc (v := nI (i + 1)) (q := 134) (gDec iX8_placeOn_ok 71 rfl) rfl (nI_1 i) (by decide) rfl ?_
          refine go_goto (t := 9) (gDec iX8_placeOn_ok 72 rfl) (by decide) ?_
          exact go_sub (L' := [(0, .ref (κ.2.1 + 29)), (1, .int (nI g)), (2, .int z), (3, .int v), (4, .int _), (5, .int _), (6, .int (nI (i + 1)))]) ⟨rfl, rfl, rfl, rfl, rfl, rfl, rfl, trivial⟩ (ih _ _ (ho.trans (by first | rw [if_neg c82, if_neg c91, if_pos (Int32.not_le.mp c117)] | rw [if_neg c82, if_neg c91, if_neg (fun h9 => absurd c117 (Int32.not_le.mpr h9)), if_pos (Int32.not_le.mp c100)] | rw [if_neg c82, if_neg c91, if_neg (fun h9 => absurd c117 (Int32.not_le.mpr h9)), if_neg (fun h9 => absurd c100 (Int32.not_le.mpr h9))])))
        · refine go_iload (q := 122) (gDec iX8_placeOn_ok 65 rfl) rfl rfl ?_
          refine go_iload (q := 124) (gDec iX8_placeOn_ok 66 rfl) rfl rfl ?_
          refine go_iload_n (q := 125) (gDec iX8_placeOn_ok 67 rfl) rfl rfl rfl ?_
          refine go_callS (n2 := 0) (q := 128) kX8_50 ctX8_rounded (gDec iX8_placeOn_ok 68 rfl) rfl rfl (Nat.le_of_ble_eq_true rfl) rfl (gFit_rm (by decide) (by decide)) rfl ?_
          refine go_isub (q := 129) (gDec iX8_placeOn_ok 69 rfl) rfl ?_
          refine go_istore (q := 131) (gDec iX8_placeOn_ok 70 rfl) (by decide) rfl ?_
          refine go_iinc (v := nI (i + 1)) (q := 134) (gDec iX8_placeOn_ok 71 rfl) rfl (nI_1 i) (by decide) rfl ?_
          refine go_goto (t := 9) (gDec iX8_placeOn_ok 72 rfl) (by decide) ?_
          exact go_sub (L' := [(0, .ref (κ.2.1 + 29)), (1, .int (nI g)), (2, .int z), (3, .int v), (4, .int _), (5, .int _), (6, .int (nI (i + 1)))]) ⟨rfl, rfl, rfl, rfl, rfl, rfl, rfl, trivial⟩ (ih _ _ (ho.trans (by first | rw [if_neg c82, if_neg c91, if_pos (Int32.not_le.mp c117)] | rw [if_neg c82, if_neg c91, if_neg (fun h9 => absurd c117 (Int32.not_le.mpr h9)), if_pos (Int32.not_le.mp c100)] | rw [if_neg c82, if_neg c91, if_neg (fun h9 => absurd c117 (Int32.not_le.mpr h9)), if_neg (fun h9 => absurd c100 (Int32.not_le.mpr h9))])))
    · refine go_iload (q := 96) (gDec iX8_placeOn_ok 51 rfl) rfl rfl ?_
      exact go_ireturn (gDec iX8_placeOn_ok 52 rfl) rfl rfl (ho.trans (by rw [if_neg c82, if_pos c91])) hσ (by decide)
  · refine go_iload (q := 87) (gDec iX8_placeOn_ok 46 rfl) rfl rfl ?_
    exact go_ireturn (gDec iX8_placeOn_ok 47 rfl) rfl rfl (ho.trans (by rw [if_pos c82])) hσ (by decide)

set_option maxHeartbeats 4000000 in
set_option maxRecDepth 100000 in
theorem lpX8_placeOn {κ : gK} {σ σ' : gST} {g N : Nat} {v z : Int32} {o : gO} (hg : g < 24) (hN : N ≤ 4) (hm : σ.1 31 g = nI N) (hσ : σ' = σ) : ∀ (m i : Nat) (e sh : Int32), i + m = N → o = .inl (some (.int (gPl (σ.1 33) (σ.1 35) v z (g * 4) i m e sh))) → Go κ mX8_placeOn (gRm 2 0) (gZm κ o σ' 0) 9 [(0, .ref (κ.2.1 + 29)), (1, .int (nI g)), (2, .int z), (3, .int v), (4, .int e), (5, .int sh), (6, .int (nI i))] [] σ 0 := by
  intro m
  induction m with
  | zero =>
    intro i e sh hi ho
    refine go_iload (q := 11) (gDec iX8_placeOn_ok 6 rfl) rfl rfl ?_
    refine go_aload_n (q := 12) (gDec iX8_placeOn_ok 7 rfl) rfl rfl rfl ?_
    refine go_iload_n (q := 13) (gDec iX8_placeOn_ok 8 rfl) rfl rfl rfl ?_
    refine go_callV (n2 := 0) (q := 16) kX8_37 (ctX8_countOf (by omega)) (gDec iX8_placeOn_ok 9 rfl) rfl rfl (by decide) rfl rfl rfl (Nat.le_of_ble_eq_true rfl) rfl (gFit_rm (by decide) (by decide)) rfl ?_
    refine go_icmp_ge (t := 137) (q := 19) (gDec iX8_placeOn_ok 10 rfl) (by decide) rfl (fun c16 => ?_) (fun c16 => False.elim (c16 (by rw [hm]; exact nI_le (by omega) (by omega))))
    refine go_iload_n (q := 138) (gDec iX8_placeOn_ok 73 rfl) rfl rfl rfl ?_
    refine go_iload_n (q := 139) (gDec iX8_placeOn_ok 74 rfl) rfl rfl rfl ?_
    refine go_callS (n2 := 0) (q := 142) kX8_50 ctX8_rounded (gDec iX8_placeOn_ok 75 rfl) rfl rfl (Nat.le_of_ble_eq_true rfl) rfl (gFit_rm (by decide) (by decide)) rfl ?_
    refine go_iload (q := 144) (gDec iX8_placeOn_ok 76 rfl) rfl rfl ?_
    refine go_iadd (q := 145) (gDec iX8_placeOn_ok 77 rfl) rfl ?_
    exact go_ireturn (gDec iX8_placeOn_ok 78 rfl) rfl rfl ho hσ (by decide)
  | succ m ih =>
    intro i e sh hi ho
    rw [gPl] at ho
    refine go_iload (q := 11) (gDec iX8_placeOn_ok 6 rfl) rfl rfl ?_
    refine go_aload_n (q := 12) (gDec iX8_placeOn_ok 7 rfl) rfl rfl rfl ?_
    refine go_iload_n (q := 13) (gDec iX8_placeOn_ok 8 rfl) rfl rfl rfl ?_
    refine go_callV (n2 := 0) (q := 16) kX8_37 (ctX8_countOf (by omega)) (gDec iX8_placeOn_ok 9 rfl) rfl rfl (by decide) rfl rfl rfl (Nat.le_of_ble_eq_true rfl) rfl (gFit_rm (by decide) (by decide)) rfl ?_
    refine go_icmp_ge (t := 137) (q := 19) (gDec iX8_placeOn_ok 10 rfl) (by decide) rfl (fun c16 => False.elim (by rw [hm] at c16; exact nI_ge (a := i) (b := N) (by omega) (by omega) c16)) (fun c16 => ?_)
    refine go_aload_n (q := 20) (gDec iX8_placeOn_ok 11 rfl) rfl rfl rfl ?_
    refine go_iload_n (q := 21) (gDec iX8_placeOn_ok 12 rfl) rfl rfl rfl ?_
    refine go_iload (q := 23) (gDec iX8_placeOn_ok 13 rfl) rfl rfl ?_
    refine go_callV (n2 := 0) (q := 26) kX8_44 (ctX8_leftOf (by omega) (by omega)) (gDec iX8_placeOn_ok 14 rfl) rfl rfl (by decide) rfl rfl rfl (Nat.le_of_ble_eq_true rfl) rfl (gFit_rm (by decide) (by decide)) rfl ?_
    refine go_istore (q := 28) (gDec iX8_placeOn_ok 15 rfl) (by decide) rfl ?_
    refine go_aload_n (q := 29) (gDec iX8_placeOn_ok 16 rfl) rfl rfl rfl ?_
    refine go_iload_n (q := 30) (gDec iX8_placeOn_ok 17 rfl) rfl rfl rfl ?_
    refine go_iload (q := 32) (gDec iX8_placeOn_ok 18 rfl) rfl rfl ?_
    refine go_callV (n2 := 0) (q := 35) kX8_40 (ctX8_rightOf (by omega) (by omega)) (gDec iX8_placeOn_ok 19 rfl) rfl rfl (by decide) rfl rfl rfl (Nat.le_of_ble_eq_true rfl) rfl (gFit_rm (by decide) (by decide)) rfl ?_
    refine go_istore (q := 37) (gDec iX8_placeOn_ok 20 rfl) (by decide) rfl ?_
    refine go_iload (q := 39) (gDec iX8_placeOn_ok 21 rfl) rfl rfl ?_
    refine go_iload_n (q := 40) (gDec iX8_placeOn_ok 22 rfl) rfl rfl rfl ?_
    refine go_callS (n2 := 0) (q := 43) kX8_50 ctX8_rounded (gDec iX8_placeOn_ok 23 rfl) rfl rfl (Nat.le_of_ble_eq_true rfl) rfl (gFit_rm (by decide) (by decide)) rfl ?_
    refine go_istore (q := 45) (gDec iX8_placeOn_ok 24 rfl) (by decide) rfl ?_
    refine go_iload (q := 47) (gDec iX8_placeOn_ok 25 rfl) rfl rfl ?_
    refine go_if_le (t := 61) (q := 50) (gDec iX8_placeOn_ok 26 rfl) (by decide) rfl (fun c47 => ?_) (fun c47 => ?_)
    · refine go_sub (L' := [(0, .ref (κ.2.1 + 29)), (1, .int (nI g)), (2, .int z), (3, .int v), (6, .int (nI i)), (7, .int (σ.1 33 (g * 4 + i))), (8, .int (σ.1 35 (g * 4 + i))), (4, .int e), (5, .int sh), (9, .int _)]) ⟨rfl, rfl, rfl, rfl, rfl, rfl, rfl, rfl, rfl, rfl, trivial⟩ ?_
      exact lpX8_place2 hg (by omega) hσ rfl (fun e2 s2 h9 => ih (i + 1) e2 s2 (by omega) h9) (ho.trans (by first | (rw [if_pos (show i = 0 from (by exact Classical.not_not.mp (fun h9 => nI_nle (n := i) (by omega) (by omega) c47)))]) | (rw [if_neg (show ¬ i = 0 from (by intro h9; subst h9; exact c47 (show nI 0 ≤ 0 from (by decide))))])))
    · refine go_iload (q := 52) (gDec iX8_placeOn_ok 27 rfl) rfl rfl ?_
      refine go_iload (q := 54) (gDec iX8_placeOn_ok 28 rfl) rfl rfl ?_
      refine go_iconst (v := 1) (q := 55) (gDec iX8_placeOn_ok 29 rfl) (by decide) rfl ?_
      refine go_iadd (q := 56) (gDec iX8_placeOn_ok 30 rfl) rfl ?_
      refine go_max (q := 59) kX8_53 (gDec iX8_placeOn_ok 31 rfl) (Nat.le_of_ble_eq_true rfl) (gFit_rm (by decide) (by decide)) rfl ?_
      refine go_istore (q := 61) (gDec iX8_placeOn_ok 32 rfl) (by decide) rfl ?_
      refine go_sub (L' := [(0, .ref (κ.2.1 + 29)), (1, .int (nI g)), (2, .int z), (3, .int v), (6, .int (nI i)), (7, .int (σ.1 33 (g * 4 + i))), (8, .int (σ.1 35 (g * 4 + i))), (4, .int e), (5, .int sh), (9, .int _)]) ⟨rfl, rfl, rfl, rfl, rfl, rfl, rfl, rfl, rfl, rfl, trivial⟩ ?_
      exact lpX8_place2 hg (by omega) hσ rfl (fun e2 s2 h9 => ih (i + 1) e2 s2 (by omega) h9) (ho.trans (by first | (rw [if_pos (show i = 0 from (by exact Classical.not_not.mp (fun h9 => nI_nle (n := i) (by omega) (by omega) c47)))]) | (rw [if_neg (show ¬ i = 0 from (by intro h9; subst h9; exact c47 (show nI 0 ≤ 0 from (by decide))))])))

set_option maxHeartbeats 4000000 in
set_option maxRecDepth 100000 in
theorem ctX8_placeOn {κ : gK} {σ : gST} {g N : Nat} (hg : g < 24) (hN : N ≤ 4) (hm : σ.1 31 g = nI N) {v z : Int32} : gCt κ mX8_placeOn 2 [.ref (κ.2.1 + 29), .int (nI g), .int z, .int v] σ (.inl (some (.int (gPl (σ.1 33) (σ.1 35) v z (g * 4) 0 N 0 0)))) σ 0 := by
  refine ct_of (by decide +kernel) rfl (Nat.le_of_ble_eq_true rfl) rfl ?_
  refine go_iconst (v := 0) (q := 1) (gDec iX8_placeOn_ok 0 rfl) (by decide) rfl ?_
  refine go_istore (q := 3) (gDec iX8_placeOn_ok 1 rfl) (by decide) rfl ?_
  refine go_iconst (v := 0) (q := 4) (gDec iX8_placeOn_ok 2 rfl) (by decide) rfl ?_
  refine go_istore (q := 6) (gDec iX8_placeOn_ok 3 rfl) (by decide) rfl ?_
  refine go_iconst (v := 0) (q := 7) (gDec iX8_placeOn_ok 4 rfl) (by decide) rfl ?_
  refine go_istore (q := 9) (gDec iX8_placeOn_ok 5 rfl) (by decide) rfl ?_
  refine go_sub (L' := [(0, .ref (κ.2.1 + 29)), (1, .int (nI g)), (2, .int z), (3, .int v), (4, .int 0), (5, .int 0), (6, .int (nI 0))]) ⟨rfl, rfl, rfl, rfl, rfl, rfl, rfl, trivial⟩ ?_
  exact lpX8_placeOn hg hN hm rfl N 0 0 0 (by omega) rfl
