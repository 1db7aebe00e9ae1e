def hT (x : Int64) : Nat := x.toUInt64.toNat
theorem hT_lt (x : Int64) : hT x < 2 ^ 64 := x.toUInt64.toNat_lt
theorem hT_and (x y : Int64) : hT (x &&& y) = hT x &&& hT y := by
  unfold hT
  rw [Int64.toUInt64_and, UInt64.toNat_and]
theorem hT_add {x y : Int64} (h : hT x + hT y < 2 ^ 64) : hT (x + y) = hT x + hT y := by
  unfold hT at h ⊢
  rw [Int64.toUInt64_add, UInt64.toNat_add, Nat.mod_eq_of_lt h]
theorem hT_sub {x y : Int64} (h : hT y ≤ hT x) : hT (x - y) = hT x - hT y := by
  unfold hT at h ⊢
  rw [Int64.toUInt64_sub, UInt64.toNat_sub_of_le _ _ (UInt64.le_iff_toNat_le.mpr h)]
theorem hT_sh (x : Int64) (k : Int32) {j : Nat} (hk : (k.toInt64.toUInt64 &&& Int64.toUInt64 63).toNat = j) (hj : j < 64) : hT (gSh6 x k) = hT x / 2 ^ j := by
  show (x.toUInt64 >>> (k.toInt64.toUInt64 &&& Int64.toUInt64 63)).toNat = x.toUInt64.toNat / 2 ^ j
  rw [UInt64.toNat_shiftRight, hk, Nat.mod_eq_of_lt hj, Nat.shiftRight_eq_div_pow]
theorem hT_1 (x : Int64) : hT (gPop1 x) = hQ1 8 (hT x) := by
  unfold gPop1 hQ1
  have h1 : hT (gSh6 x 1 &&& 6148914691236517205) = (hT x / 2) &&& hM 85 8 := by
    rw [hT_and, hT_sh x 1 (j := 1) (by decide) (by decide)]
    rfl
  have h2 : (hT x / 2) &&& hM 85 8 ≤ hT x / 2 := Nat.and_le_left
  rw [hT_sub (by rw [h1]; omega), h1]
theorem hQ2_le (x : Nat) : hQ2 8 x ≤ 7378697629483820646 := by
  unfold hQ2
  have h1 : x &&& hM 51 8 ≤ hM 51 8 := Nat.and_le_right
  have h2 : (x / 4) &&& hM 51 8 ≤ hM 51 8 := Nat.and_le_right
  have h3 : hM 51 8 = 3689348814741910323 := by decide
  omega
theorem hT_2 (x : Int64) : hT (gPop2 x) = hQ2 8 (hT x) := by
  unfold gPop2
  have h0 := hQ2_le (hT x)
  have h1 : hT (gSh6 x 2 &&& 3689348814741910323) = (hT x / 4) &&& hM 51 8 := by
    rw [hT_and, hT_sh x 2 (j := 2) (by decide) (by decide)]
    rfl
  have h2 : hT (x &&& 3689348814741910323) = hT x &&& hM 51 8 := by
    rw [hT_and]
    rfl
  have h3 : hT (x &&& 3689348814741910323) + hT (gSh6 x 2 &&& 3689348814741910323) = hQ2 8 (hT x) := by
    rw [h1, h2]
    rfl
  rw [hT_add (by omega), h3]
theorem hT_3 {x : Int64} (h : hT x ≤ 7378697629483820646) : hT (gPop3 x) = hQ3 8 (hT x) := by
  unfold gPop3
  have h1 : hT (gSh6 x 4) = hT x / 16 := hT_sh x 4 (j := 4) (by decide) (by decide)
  rw [hT_and, hT_add (by omega), h1]
  rfl
theorem hT_4 {x : Int64} {k : Int32} {j : Nat} (hk : (k.toInt64.toUInt64 &&& Int64.toUInt64 63).toNat = j) (hj : j < 64) (h0 : 0 < j) (h : hT x ≤ 7378697629483820646) : hT (gPop4 x k) = hT x + hT x / 2 ^ j := by
  unfold gPop4
  have h1 := hT_sh x k hk hj
  have h2 : hT x / 2 ^ j ≤ hT x := Nat.div_le_self _ _
  rw [hT_add (by omega), h1]
theorem hT_m (x : Int64) : x.toInt32 &&& 127 = nI (hT x % 128) := by
  apply Int32.toBitVec_inj.mp
  apply BitVec.eq_of_toNat_eq
  rw [Int32.toBitVec_and, BitVec.toNat_and]
  have h1 : (x.toInt32).toBitVec.toNat = hT x % 2 ^ 32 := by
    rw [Int64.toBitVec_toInt32, BitVec.signExtend_eq_setWidth_of_le _ (by decide), BitVec.toNat_setWidth]
    rfl
  have h2 : ((127 : Int32)).toBitVec.toNat = 2 ^ 7 - 1 := by decide
  have h3 : (nI (hT x % 128)).toBitVec.toNat = hT x % 128 := by
    show (BitVec.ofNat 32 (hT x % 128)).toNat = _
    rw [BitVec.toNat_ofNat, Nat.mod_eq_of_lt (by omega)]
  rw [h1, h2, h3, Nat.and_two_pow_sub_one_eq_mod]
  omega
theorem vN_bit : ∀ (m : Nat) (P : Nat → Bool) (j : Nat), (vN P m).testBit j = (decide (j < m) && P j)
  | 0, P, j => by simp [vN]
  | m + 1, P, 0 => by
    unfold vN
    rw [Nat.testBit_zero]
    cases P 0 <;> simp <;> omega
  | m + 1, P, j + 1 => by
    unfold vN
    rw [Nat.testBit_succ]
    have h : ((P 0).toNat + 2 * vN (fun i => P (i + 1)) m) / 2 = vN (fun i => P (i + 1)) m := by
      have := Bool.toNat_lt (P 0)
      omega
    rw [h, vN_bit m]
    simp
theorem hT_msk {P : Nat → Bool} {m : Nat} (h : m ≤ 64) : hT (gMsk P m) = vN (fun j => decide (j < m) && P j) 64 := by
  apply Nat.eq_of_testBit_eq
  intro j
  rw [vN_bit]
  show (gMsk P m).toBitVec.getLsbD j = _
  rw [gMsk_bit m h]
  by_cases h1 : j < 64
  · simp [h1]
  · simp [show ¬ j < m by omega]
theorem hDv1 {a y : Nat} (h : a < 256) : (a + 256 * y) / 256 = y := by omega
theorem hDv2 {a b y : Nat} (h : a < 256) (h2 : b < 256) : (a + 256 * (b + 256 * y)) / 65536 = y := by omega
theorem hDv4 {a b c d y : Nat} (h : a < 256) (h2 : b < 256) (h3 : c < 256) (h4 : d < 256) : (a + 256 * (b + 256 * (c + 256 * (d + 256 * y)))) / 4294967296 = y := by omega
theorem hAd {a b y z : Nat} : (a + 256 * y) + (b + 256 * z) = (a + b) + 256 * (y + z) := by omega
theorem hMd {t y : Nat} (h : t < 128) : (t + 256 * y) % 128 = t := by omega
theorem hL2 {a b : Nat} (h : a ≤ 8) (h2 : b ≤ 8) : a + b < 256 := by omega
theorem hL4 {a b c d : Nat} (h : a ≤ 8) (h2 : b ≤ 8) (h3 : c ≤ 8) (h4 : d ≤ 8) : a + b + (c + d) < 256 := by omega
theorem hSum {c0 c1 c2 c3 c4 c5 c6 c7 X X1 X2 X3 : Nat} (b0 : c0 ≤ 8) (b1 : c1 ≤ 8) (b2 : c2 ≤ 8) (b3 : c3 ≤ 8) (b4 : c4 ≤ 8) (b5 : c5 ≤ 8) (b6 : c6 ≤ 8) (b7 : c7 ≤ 8) (hX : X = c0 + 256 * (c1 + 256 * (c2 + 256 * (c3 + 256 * (c4 + 256 * (c5 + 256 * (c6 + 256 * (c7 + 256 * 0)))))))) (h1 : X1 = X + X / 2 ^ 8) (h2 : X2 = X1 + X1 / 2 ^ 16) (h3 : X3 = X2 + X2 / 2 ^ 32) : X3 % 128 = c0 + (c1 + (c2 + (c3 + (c4 + (c5 + (c6 + c7)))))) := by
  have e1 : X1 = (c0 + c1) + 256 * ((c1 + c2) + 256 * ((c2 + c3) + 256 * ((c3 + c4) + 256 * ((c4 + c5) + 256 * ((c5 + c6) + 256 * ((c6 + c7) + 256 * (c7 + 256 * 0))))))) := by
    rw [h1, hX, show 2 ^ 8 = 256 from rfl, hDv1 (Nat.lt_of_le_of_lt b0 (by decide)), hAd, hAd, hAd, hAd, hAd, hAd, hAd]
    try rfl
  have e2 : X2 = ((c0 + c1) + (c2 + c3)) + 256 * (((c1 + c2) + (c3 + c4)) + 256 * (((c2 + c3) + (c4 + c5)) + 256 * (((c3 + c4) + (c5 + c6)) + 256 * (((c4 + c5) + (c6 + c7)) + 256 * (((c5 + c6) + c7) + 256 * ((c6 + c7) + 256 * (c7 + 256 * 0))))))) := by
    rw [h2, e1, show 2 ^ 16 = 65536 from rfl, hDv2 (hL2 b0 b1) (hL2 b1 b2), hAd, hAd, hAd, hAd, hAd, hAd]
    try rfl
  have e3 : X3 = (((c0 + c1) + (c2 + c3)) + ((c4 + c5) + (c6 + c7))) + 256 * ((((c1 + c2) + (c3 + c4)) + ((c5 + c6) + c7)) + 256 * ((((c2 + c3) + (c4 + c5)) + (c6 + c7)) + 256 * ((((c3 + c4) + (c5 + c6)) + c7) + 256 * (((c4 + c5) + (c6 + c7)) + 256 * (((c5 + c6) + c7) + 256 * ((c6 + c7) + 256 * (c7 + 256 * 0))))))) := by
    rw [h3, e2, show 2 ^ 32 = 4294967296 from rfl, hDv4 (hL4 b0 b1 b2 b3) (hL4 b1 b2 b3 b4) (hL4 b2 b3 b4 b5) (hL4 b3 b4 b5 b6), hAd, hAd, hAd, hAd]
    try rfl
  clear h1 h2 h3 hX e1 e2
  rw [e3, hMd (by clear e3; omega)]
  clear e3
  omega
theorem gPop_msk {P : Nat → Bool} {m : Nat} (h : m ≤ 64) : gPop (gMsk P m) = nI (cN (fun j => decide (j < m) && P j) 64) := by
  unfold gPop
  obtain ⟨c0, c1, c2, c3, c4, c5, c6, c7, ⟨b0, b1, b2, b3, b4, b5, b6, b7⟩, h1, h2⟩ := hF_8 (fun j => decide (j < m) && P j)
  rw [h2]
  have e2 : hT (gPop2 (gPop1 (gMsk P m))) = hQ 8 (vN (fun j => decide (j < m) && P j) 64) := by
    rw [hT_2, hT_1, hT_msk h]
    rfl
  have e3 : hT (gPop3 (gPop2 (gPop1 (gMsk P m)))) = c0 + 256 * (c1 + 256 * (c2 + 256 * (c3 + 256 * (c4 + 256 * (c5 + 256 * (c6 + 256 * (c7 + 256 * 0))))))) := by
    rw [hT_3 (by rw [e2]; exact hQ2_le _), e2, h1]
  generalize gPop3 (gPop2 (gPop1 (gMsk P m))) = x at *
  have e4 : hT (gPop4 x 8) = hT x + hT x / 2 ^ 8 := hT_4 (by decide) (by decide) (by decide) (by omega)
  have e5 : hT (gPop4 (gPop4 x 8) 16) = hT (gPop4 x 8) + hT (gPop4 x 8) / 2 ^ 16 := hT_4 (by decide) (by decide) (by decide) (by omega)
  have e6 : hT (gPop4 (gPop4 (gPop4 x 8) 16) 32) = hT (gPop4 (gPop4 x 8) 16) + hT (gPop4 (gPop4 x 8) 16) / 2 ^ 32 := hT_4 (by decide) (by decide) (by decide) (by omega)
  rw [hT_m]
  exact congrArg nI (hSum b0 b1 b2 b3 b4 b5 b6 b7 e3 e4 e5 e6)
theorem cN_sum : ∀ (n i : Nat) (Q : Nat → Bool) (a : Int32), gLoop (fun k a => a + bI (Q k)) i n a = a + nI (cN (fun k => Q (k + i)) n)
  | 0, _, _, a => (Int32.add_zero a).symm
  | n + 1, i, Q, a => by
    show gLoop _ (i + 1) n (a + bI (Q i)) = _
    rw [cN_sum n (i + 1)]
    have h1 : (fun k => Q (k + (i + 1))) = (fun k => Q (k + 1 + i)) := by
      funext k
      rw [show k + (i + 1) = k + 1 + i by omega]
    rw [h1, show cN (fun k => Q (k + i)) (n + 1) = (Q (0 + i)).toNat + cN (fun k => Q (k + 1 + i)) n from rfl, ← nI_add, ← Int32.add_assoc, Nat.zero_add]
    congr 2
    cases Q i <;> rfl
theorem gPop_35 {P : Nat → Bool} : gPop (gMsk P 35) = gLoop (fun k a => a + bI (P k)) 0 35 0 := by
  rw [gPop_msk (by decide)]
  have h := cN_sum 64 0 (fun j => decide (j < 35) && P j) 0
  rw [Int32.zero_add] at h
  have h2 : gLoop (fun k a => a + bI (decide (k < 35) && P k)) 0 64 (0 : Int32) = gLoop (fun k a => a + bI (P k)) 0 35 0 := by
    rw [show 64 = 35 + 29 from rfl, gLoop_add, gLoop_id]
    · refine gLoop_congr _ _ _ (fun k h1 h2 b => ?_)
      simp [show k < 35 by omega]
    · intro k h1 h2 b
      have h3 : decide (k < 35) = false := decide_eq_false (by omega)
      rw [h3]
      exact Int32.add_zero b
  exact h.symm.trans h2
/-- sums -/
def sM (f : Nat → Int32) (i m : Nat) : Int32 := gLoop (fun k a => a + f k) i m 0
theorem sM_a (f : Nat → Int32) : ∀ (m i : Nat) (a : Int32), gLoop (fun k a => a + f k) i m a = a + sM f i m
  | 0, _, a => (Int32.add_zero a).symm
  | m + 1, i, a => by
    show gLoop _ (i + 1) m (a + f i) = a + gLoop _ (i + 1) m (0 + f i)
    rw [sM_a f m (i + 1), sM_a f m (i + 1), Int32.zero_add, Int32.add_assoc]
theorem sM_s (f : Nat → Int32) (m i : Nat) : sM f i (m + 1) = f i + sM f (i + 1) m := by
  show gLoop _ (i + 1) m (0 + f i) = _
  rw [sM_a, Int32.zero_add]
theorem sM_0 : ∀ (m i : Nat), sM (fun _ => 0) i m = 0
  | 0, _ => rfl
  | m + 1, i => by rw [sM_s, sM_0 m, Int32.zero_add]
theorem sM_add (f g : Nat → Int32) : ∀ (m i : Nat), sM (fun k => f k + g k) i m = sM f i m + sM g i m
  | 0, _ => rfl
  | m + 1, i => by
    rw [sM_s, sM_s, sM_s, sM_add f g m]
    ac_rfl
theorem sM_swap (f : Nat → Nat → Int32) (i2 n : Nat) : ∀ (m i : Nat), sM (fun k => sM (f k) i2 n) i m = sM (fun l => sM (fun k => f k l) i m) i2 n
  | 0, i => (sM_0 n i2).symm
  | m + 1, i => by
    rw [sM_s, sM_swap f i2 n m]
    rw [← sM_add]
    congr 1
    funext l
    rw [sM_s]
theorem gLoop_sM {s : Nat → Int32 → Int32} {f : Nat → Int32} (h : ∀ k a, s k a = a + f k) (m i : Nat) (a : Int32) : gLoop s i m a = a + sM f i m := by
  have : s = fun k a => a + f k := by funext k a; exact h k a
  rw [this, sM_a]
/-- the pixel in the k-th row, the l-th column of those counted -/
def gPx (τ : gST) (z : Int32) (g k l : Nat) : Int32 := bI (gXr τ z ((2 * (-5 + nI k) + 1) * 500) (-5 + nI l) g)
theorem gBp_eq {τ : gST} {z : Int32} {g : Nat} : gLoop (gBpS τ g z) 0 35 0 = sM (fun l => sM (fun k => gPx τ z g k l) 0 35) 0 35 := by
  rw [gLoop_sM (f := fun k => sM (gPx τ z g k) 0 35), Int32.zero_add, sM_swap]
  intro k a
  unfold gBpS
  rw [gBlack_E (by decide), gPop_35, sM_a, Int32.zero_add]
  rfl

set_option maxHeartbeats 4000000 in
set_option maxRecDepth 100000 in
theorem ctX11_isBlack {κ : gK} {σ τ : gST} {g z c r : Int32} (hC : gCI τ) (hM : gMR τ (σ.1 377)) : gCt κ mX11_isBlack 9 [.ref (κ.2.1 + 376), .int g, .int z, .int c, .int r] σ (rI (aI (fIsBlack τ g z c r).1)) (gPut σ 376 5 (xC kOA (fIsBlack τ g z c r).1)) 0 := by
  have hW := hC.dw
  have h24 := hW.ng24
  refine ct_of (by decide +kernel) rfl (Nat.le_of_ble_eq_true rfl) rfl ?_
  by_cases h1 : gInG τ g
  · have hs : fIsBlack τ g z c r = _ := if_pos h1
    rw [hs]
    obtain ⟨i, hi, rfl⟩ := gInG.ex h1
    rw [nA_nI (n := i) (by omega)]
    by_cases h2 : 6 ≤ z.toInt ∧ z.toInt ≤ 60
    · by_cases h3 : -100 ≤ c.toInt ∧ c.toInt ≤ 100
      · by_cases h4 : -100 ≤ r.toInt ∧ r.toInt ≤ 100
        · rw [if_pos ⟨h2, h3, h4⟩, gBlack_0]
          cases hb : gXr τ z ((2 * r + 1) * 500) c i with
          | true =>
            refine go_aload_n (q := 1) (gDec iX11_isBlack_ok 0 rfl) rfl rfl rfl ?_
            refine go_aload_n (q := 2) (gDec iX11_isBlack_ok 1 rfl) rfl rfl rfl ?_
            refine go_iload_n (q := 3) (gDec iX11_isBlack_ok 2 rfl) rfl rfl rfl ?_
            refine go_callV (n2 := 0) (q := 6) kX11_65 (ctX11_isGlyph (τ := τ) hW hM) (gDec iX11_isBlack_ok 3 rfl) rfl rfl (by decide) rfl rfl rfl (Nat.le_of_ble_eq_true rfl) rfl (gFit_rm (by decide) (by decide)) rfl ?_
            refine go_top (v' := 1) (gWi_t (by (try rw [i2l_toInt]); exact h1)) ?_
            refine go_if_ne (t := 13) (q := 9) (gDec iX11_isBlack_ok 4 rfl) (by decide) rfl (fun c6 => ?_) (fun c6 => False.elim (absurd c6 (by decide)))
            refine go_iload_n (q := 14) (gDec iX11_isBlack_ok 7 rfl) rfl rfl rfl ?_
            refine go_i2l (q := 15) (gDec iX11_isBlack_ok 8 rfl) rfl ?_
            refine go_bipush (v := nI 6) (q := 17) (gDec iX11_isBlack_ok 9 rfl) (by decide) rfl ?_
            refine go_bipush (v := nI 60) (q := 19) (gDec iX11_isBlack_ok 10 rfl) (by decide) rfl ?_
            refine go_callS (n2 := 0) (q := 22) kX11_57 ctX11_in (gDec iX11_isBlack_ok 11 rfl) rfl rfl (Nat.le_of_ble_eq_true rfl) rfl (gFit_rm (by decide) (by decide)) rfl ?_
            refine go_top (v' := 1) (gWi_t (by (try rw [i2l_toInt]); exact h2)) ?_
            refine go_if_eq (t := 50) (q := 25) (gDec iX11_isBlack_ok 12 rfl) (by decide) rfl (fun c22 => False.elim (absurd c22 (by decide))) (fun c22 => ?_)
            refine go_iload_n (q := 26) (gDec iX11_isBlack_ok 13 rfl) rfl rfl rfl ?_
            refine go_i2l (q := 27) (gDec iX11_isBlack_ok 14 rfl) rfl ?_
            refine go_bipush (v := (-100)) (q := 29) (gDec iX11_isBlack_ok 15 rfl) (by decide) rfl ?_
            refine go_bipush (v := nI 100) (q := 31) (gDec iX11_isBlack_ok 16 rfl) (by decide) rfl ?_
            refine go_callS (n2 := 0) (q := 34) kX11_57 ctX11_in (gDec iX11_isBlack_ok 17 rfl) rfl rfl (Nat.le_of_ble_eq_true rfl) rfl (gFit_rm (by decide) (by decide)) rfl ?_
            refine go_top (v' := 1) (gWi_t (by (try rw [i2l_toInt]); exact h3)) ?_
            refine go_if_eq (t := 50) (q := 37) (gDec iX11_isBlack_ok 18 rfl) (by decide) rfl (fun c34 => False.elim (absurd c34 (by decide))) (fun c34 => ?_)
            refine go_iload (q := 39) (gDec iX11_isBlack_ok 19 rfl) rfl rfl ?_
            refine go_i2l (q := 40) (gDec iX11_isBlack_ok 20 rfl) rfl ?_
            refine go_bipush (v := (-100)) (q := 42) (gDec iX11_isBlack_ok 21 rfl) (by decide) rfl ?_
            refine go_bipush (v := nI 100) (q := 44) (gDec iX11_isBlack_ok 22 rfl) (by decide) rfl ?_
            refine go_callS (n2 := 0) (q := 47) kX11_57 ctX11_in (gDec iX11_isBlack_ok 23 rfl) rfl rfl (Nat.le_of_ble_eq_true rfl) rfl (gFit_rm (by decide) (by decide)) rfl ?_
            refine go_top (v' := 1) (gWi_t (by (try rw [i2l_toInt]); exact h4)) ?_
            refine go_if_ne (t := 54) (q := 50) (gDec iX11_isBlack_ok 24 rfl) (by decide) rfl (fun c47 => ?_) (fun c47 => False.elim (absurd c47 (by decide)))
            refine go_iconst (v := nI 0) (q := 55) (gDec iX11_isBlack_ok 27 rfl) (by decide) rfl ?_
            refine go_puti (q := 58) fX11_54 gft11 (gDec iX11_isBlack_ok 28 rfl) rfl (by decide) rfl rfl rfl rfl ?_
            refine go_aload_n (q := 59) (gDec iX11_isBlack_ok 29 rfl) rfl rfl rfl ?_
            refine go_geti (q := 62) fX11_54 (gDec iX11_isBlack_ok 30 rfl) rfl (by decide) rfl ?_
            refine go_top (v' := nI 0) rfl ?_
            refine go_if_ne (t := 81) (q := 65) (gDec iX11_isBlack_ok 31 rfl) (by decide) rfl (fun c62 => False.elim (c62 rfl)) (fun c62 => ?_)
            refine go_aload_n (q := 66) (gDec iX11_isBlack_ok 32 rfl) rfl rfl rfl ?_
            refine go_iload_n (q := 67) (gDec iX11_isBlack_ok 33 rfl) rfl rfl rfl ?_
            refine go_iload_n (q := 68) (gDec iX11_isBlack_ok 34 rfl) rfl rfl rfl ?_
            refine go_iload_n (q := 69) (gDec iX11_isBlack_ok 35 rfl) rfl rfl rfl ?_
            refine go_iload (q := 71) (gDec iX11_isBlack_ok 36 rfl) rfl rfl ?_
            refine go_callV (n2 := 0) (q := 74) kX11_193 (ctX11_black (τ := τ) hC (gMRt hM) hi h2 h3 h4) (gDec iX11_isBlack_ok 37 rfl) rfl rfl (by decide) rfl rfl rfl (Nat.le_of_ble_eq_true rfl) rfl (gFit_rm (by decide) (by decide)) rfl ?_
            refine go_top (v' := 1) (by rw [hb]; rfl) ?_
            refine go_if_eq (t := 81) (q := 77) (gDec iX11_isBlack_ok 38 rfl) (by decide) rfl (fun c74 => False.elim (absurd c74 (by decide))) (fun c74 => ?_)
            refine go_iconst (v := nI 1) (q := 78) (gDec iX11_isBlack_ok 39 rfl) (by decide) rfl ?_
            refine go_goto (t := 82) (gDec iX11_isBlack_ok 40 rfl) (by decide) ?_
            exact go_ireturn (gDec iX11_isBlack_ok 42 rfl) rfl rfl rfl rfl (by decide)
          | false =>
            refine go_aload_n (q := 1) (gDec iX11_isBlack_ok 0 rfl) rfl rfl rfl ?_
            refine go_aload_n (q := 2) (gDec iX11_isBlack_ok 1 rfl) rfl rfl rfl ?_
            refine go_iload_n (q := 3) (gDec iX11_isBlack_ok 2 rfl) rfl rfl rfl ?_
            refine go_callV (n2 := 0) (q := 6) kX11_65 (ctX11_isGlyph (τ := τ) hW hM) (gDec iX11_isBlack_ok 3 rfl) rfl rfl (by decide) rfl rfl rfl (Nat.le_of_ble_eq_true rfl) rfl (gFit_rm (by decide) (by decide)) rfl ?_
            refine go_top (v' := 1) (gWi_t (by (try rw [i2l_toInt]); exact h1)) ?_
            refine go_if_ne (t := 13) (q := 9) (gDec iX11_isBlack_ok 4 rfl) (by decide) rfl (fun c6 => ?_) (fun c6 => False.elim (absurd c6 (by decide)))
            refine go_iload_n (q := 14) (gDec iX11_isBlack_ok 7 rfl) rfl rfl rfl ?_
            refine go_i2l (q := 15) (gDec iX11_isBlack_ok 8 rfl) rfl ?_
            refine go_bipush (v := nI 6) (q := 17) (gDec iX11_isBlack_ok 9 rfl) (by decide) rfl ?_
            refine go_bipush (v := nI 60) (q := 19) (gDec iX11_isBlack_ok 10 rfl) (by decide) rfl ?_
            refine go_callS (n2 := 0) (q := 22) kX11_57 ctX11_in (gDec iX11_isBlack_ok 11 rfl) rfl rfl (Nat.le_of_ble_eq_true rfl) rfl (gFit_rm (by decide) (by decide)) rfl ?_
            refine go_top (v' := 1) (gWi_t (by (try rw [i2l_toInt]); exact h2)) ?_
            refine go_if_eq (t := 50) (q := 25) (gDec iX11_isBlack_ok 12 rfl) (by decide) rfl (fun c22 => False.elim (absurd c22 (by decide))) (fun c22 => ?_)
            refine go_iload_n (q := 26) (gDec iX11_isBlack_ok 13 rfl) rfl rfl rfl ?_
            refine go_i2l (q := 27) (gDec iX11_isBlack_ok 14 rfl) rfl ?_
            refine go_bipush (v := (-100)) (q := 29) (gDec iX11_isBlack_ok 15 rfl) (by decide) rfl ?_
            refine go_bipush (v := nI 100) (q := 31) (gDec iX11_isBlack_ok 16 rfl) (by decide) rfl ?_
            refine go_callS (n2 := 0) (q := 34) kX11_57 ctX11_in (gDec iX11_isBlack_ok 17 rfl) rfl rfl (Nat.le_of_ble_eq_true rfl) rfl (gFit_rm (by decide) (by decide)) rfl ?_
            refine go_top (v' := 1) (gWi_t (by (try rw [i2l_toInt]); exact h3)) ?_
            refine go_if_eq (t := 50) (q := 37) (gDec iX11_isBlack_ok 18 rfl) (by decide) rfl (fun c34 => False.elim (absurd c34 (by decide))) (fun c34 => ?_)
            refine go_iload (q := 39) (gDec iX11_isBlack_ok 19 rfl) rfl rfl ?_
            refine go_i2l (q := 40) (gDec iX11_isBlack_ok 20 rfl) rfl ?_
            refine go_bipush (v := (-100)) (q := 42) (gDec iX11_isBlack_ok 21 rfl) (by decide) rfl ?_
            refine go_bipush (v := nI 100) (q := 44) (gDec iX11_isBlack_ok 22 rfl) (by decide) rfl ?_
            refine go_callS (n2 := 0) (q := 47) kX11_57 ctX11_in (gDec iX11_isBlack_ok 23 rfl) rfl rfl (Nat.le_of_ble_eq_true rfl) rfl (gFit_rm (by decide) (by decide)) rfl ?_
            refine go_top (v' := 1) (gWi_t (by (try rw [i2l_toInt]); exact h4)) ?_
            refine go_if_ne (t := 54) (q := 50) (gDec iX11_isBlack_ok 24 rfl) (by decide) rfl (fun c47 => ?_) (fun c47 => False.elim (absurd c47 (by decide)))
            refine go_iconst (v := nI 0) (q := 55) (gDec iX11_isBlack_ok 27 rfl) (by decide) rfl ?_
            refine go_puti (q := 58) fX11_54 gft11 (gDec iX11_isBlack_ok 28 rfl) rfl (by decide) rfl rfl rfl rfl ?_
            refine go_aload_n (q := 59) (gDec iX11_isBlack_ok 29 rfl) rfl rfl rfl ?_
            refine go_geti (q := 62) fX11_54 (gDec iX11_isBlack_ok 30 rfl) rfl (by decide) rfl ?_
            refine go_top (v' := nI 0) rfl ?_
            refine go_if_ne (t := 81) (q := 65) (gDec iX11_isBlack_ok 31 rfl) (by decide) rfl (fun c62 => False.elim (c62 rfl)) (fun c62 => ?_)
            refine go_aload_n (q := 66) (gDec iX11_isBlack_ok 32 rfl) rfl rfl rfl ?_
            refine go_iload_n (q := 67) (gDec iX11_isBlack_ok 33 rfl) rfl rfl rfl ?_
            refine go_iload_n (q := 68) (gDec iX11_isBlack_ok 34 rfl) rfl rfl rfl ?_
            refine go_iload_n (q := 69) (gDec iX11_isBlack_ok 35 rfl) rfl rfl rfl ?_
            refine go_iload (q := 71) (gDec iX11_isBlack_ok 36 rfl) rfl rfl ?_
            refine go_callV (n2 := 0) (q := 74) kX11_193 (ctX11_black (τ := τ) hC (gMRt hM) hi h2 h3 h4) (gDec iX11_isBlack_ok 37 rfl) rfl rfl (by decide) rfl rfl rfl (Nat.le_of_ble_eq_true rfl) rfl (gFit_rm (by decide) (by decide)) rfl ?_
            refine go_top (v' := 0) (by rw [hb]; rfl) ?_
            refine go_if_eq (t := 81) (q := 77) (gDec iX11_isBlack_ok 38 rfl) (by decide) rfl (fun c74 => ?_) (fun c74 => False.elim (c74 rfl))
            refine go_iconst (v := nI 0) (q := 82) (gDec iX11_isBlack_ok 41 rfl) (by decide) rfl ?_
            exact go_ireturn (gDec iX11_isBlack_ok 42 rfl) rfl rfl rfl rfl (by decide)
        · rw [if_neg (fun h9 => h4 h9.2.2)]
          refine go_aload_n (q := 1) (gDec iX11_isBlack_ok 0 rfl) rfl rfl rfl ?_
          refine go_aload_n (q := 2) (gDec iX11_isBlack_ok 1 rfl) rfl rfl rfl ?_
          refine go_iload_n (q := 3) (gDec iX11_isBlack_ok 2 rfl) rfl rfl rfl ?_
          refine go_callV (n2 := 0) (q := 6) kX11_65 (ctX11_isGlyph (τ := τ) hW hM) (gDec iX11_isBlack_ok 3 rfl) rfl rfl (by decide) rfl rfl rfl (Nat.le_of_ble_eq_true rfl) rfl (gFit_rm (by decide) (by decide)) rfl ?_
          refine go_top (v' := 1) (gWi_t (by (try rw [i2l_toInt]); exact h1)) ?_
          refine go_if_ne (t := 13) (q := 9) (gDec iX11_isBlack_ok 4 rfl) (by decide) rfl (fun c6 => ?_) (fun c6 => False.elim (absurd c6 (by decide)))
          refine go_iload_n (q := 14) (gDec iX11_isBlack_ok 7 rfl) rfl rfl rfl ?_
          refine go_i2l (q := 15) (gDec iX11_isBlack_ok 8 rfl) rfl ?_
          refine go_bipush (v := nI 6) (q := 17) (gDec iX11_isBlack_ok 9 rfl) (by decide) rfl ?_
          refine go_bipush (v := nI 60) (q := 19) (gDec iX11_isBlack_ok 10 rfl) (by decide) rfl ?_
          refine go_callS (n2 := 0) (q := 22) kX11_57 ctX11_in (gDec iX11_isBlack_ok 11 rfl) rfl rfl (Nat.le_of_ble_eq_true rfl) rfl (gFit_rm (by decide) (by decide)) rfl ?_
          refine go_top (v' := 1) (gWi_t (by (try rw [i2l_toInt]); exact h2)) ?_
          refine go_if_eq (t := 50) (q := 25) (gDec iX11_isBlack_ok 12 rfl) (by decide) rfl (fun c22 => False.elim (absurd c22 (by decide))) (fun c22 => ?_)
          refine go_iload_n (q := 26) (gDec iX11_isBlack_ok 13 rfl) rfl rfl rfl ?_
          refine go_i2l (q := 27) (gDec iX11_isBlack_ok 14 rfl) rfl ?_
          refine go_bipush (v := (-100)) (q := 29) (gDec iX11_isBlack_ok 15 rfl) (by decide) rfl ?_
          refine go_bipush (v := nI 100) (q := 31) (gDec iX11_isBlack_ok 16 rfl) (by decide) rfl ?_
          refine go_callS (n2 := 0) (q := 34) kX11_57 ctX11_in (gDec iX11_isBlack_ok 17 rfl) rfl rfl (Nat.le_of_ble_eq_true rfl) rfl (gFit_rm (by decide) (by decide)) rfl ?_
          refine go_top (v' := 1) (gWi_t (by (try rw [i2l_toInt]); exact h3)) ?_
          refine go_if_eq (t := 50) (q := 37) (gDec iX11_isBlack_ok 18 rfl) (by decide) rfl (fun c34 => False.elim (absurd c34 (by decide))) (fun c34 => ?_)
          refine go_iload (q := 39) (gDec iX11_isBlack_ok 19 rfl) rfl rfl ?_
          refine go_i2l (q := 40) (gDec iX11_isBlack_ok 20 rfl) rfl ?_
          refine go_bipush (v := (-100)) (q := 42) (gDec iX11_isBlack_ok 21 rfl) (by decide) rfl ?_
          refine go_bipush (v := nI 100) (q := 44) (gDec iX11_isBlack_ok 22 rfl) (by decide) rfl ?_
          refine go_callS (n2 := 0) (q := 47) kX11_57 ctX11_in (gDec iX11_isBlack_ok 23 rfl) rfl rfl (Nat.le_of_ble_eq_true rfl) rfl (gFit_rm (by decide) (by decide)) rfl ?_
          refine go_top (v' := 0) (gWi_f (by (try rw [i2l_toInt]); exact h4)) ?_
          refine go_if_ne (t := 54) (q := 50) (gDec iX11_isBlack_ok 24 rfl) (by decide) rfl (fun c47 => False.elim (c47 rfl)) (fun c47 => ?_)
          refine go_iconst (v := nI 2) (q := 51) (gDec iX11_isBlack_ok 25 rfl) (by decide) rfl ?_
          refine go_goto (t := 55) (gDec iX11_isBlack_ok 26 rfl) (by decide) ?_
          refine go_puti (q := 58) fX11_54 gft11 (gDec iX11_isBlack_ok 28 rfl) rfl (by decide) rfl rfl rfl rfl ?_
          refine go_aload_n (q := 59) (gDec iX11_isBlack_ok 29 rfl) rfl rfl rfl ?_
          refine go_geti (q := 62) fX11_54 (gDec iX11_isBlack_ok 30 rfl) rfl (by decide) rfl ?_
          refine go_top (v' := nI 2) rfl ?_
          refine go_if_ne (t := 81) (q := 65) (gDec iX11_isBlack_ok 31 rfl) (by decide) rfl (fun c62 => ?_) (fun c62 => False.elim (absurd c62 (by decide)))
          refine go_iconst (v := nI 0) (q := 82) (gDec iX11_isBlack_ok 41 rfl) (by decide) rfl ?_
          exact go_ireturn (gDec iX11_isBlack_ok 42 rfl) rfl rfl rfl (congrArg (gPut σ 376 5) xc_OA_A) (by decide)
      · rw [if_neg (fun h9 => h3 h9.2.1)]
        refine go_aload_n (q := 1) (gDec iX11_isBlack_ok 0 rfl) rfl rfl rfl ?_
        refine go_aload_n (q := 2) (gDec iX11_isBlack_ok 1 rfl) rfl rfl rfl ?_
        refine go_iload_n (q := 3) (gDec iX11_isBlack_ok 2 rfl) rfl rfl rfl ?_
        refine go_callV (n2 := 0) (q := 6) kX11_65 (ctX11_isGlyph (τ := τ) hW hM) (gDec iX11_isBlack_ok 3 rfl) rfl rfl (by decide) rfl rfl rfl (Nat.le_of_ble_eq_true rfl) rfl (gFit_rm (by decide) (by decide)) rfl ?_
        refine go_top (v' := 1) (gWi_t (by (try rw [i2l_toInt]); exact h1)) ?_
        refine go_if_ne (t := 13) (q := 9) (gDec iX11_isBlack_ok 4 rfl) (by decide) rfl (fun c6 => ?_) (fun c6 => False.elim (absurd c6 (by decide)))
        refine go_iload_n (q := 14) (gDec iX11_isBlack_ok 7 rfl) rfl rfl rfl ?_
        refine go_i2l (q := 15) (gDec iX11_isBlack_ok 8 rfl) rfl ?_
        refine go_bipush (v := nI 6) (q := 17) (gDec iX11_isBlack_ok 9 rfl) (by decide) rfl ?_
        refine go_bipush (v := nI 60) (q := 19) (gDec iX11_isBlack_ok 10 rfl) (by decide) rfl ?_
        refine go_callS (n2 := 0) (q := 22) kX11_57 ctX11_in (gDec iX11_isBlack_ok 11 rfl) rfl rfl (Nat.le_of_ble_eq_true rfl) rfl (gFit_rm (by decide) (by decide)) rfl ?_
        refine go_top (v' := 1) (gWi_t (by (try rw [i2l_toInt]); exact h2)) ?_
        refine go_if_eq (t := 50) (q := 25) (gDec iX11_isBlack_ok 12 rfl) (by decide) rfl (fun c22 => False.elim (absurd c22 (by decide))) (fun c22 => ?_)
        refine go_iload_n (q := 26) (gDec iX11_isBlack_ok 13 rfl) rfl rfl rfl ?_
        refine go_i2l (q := 27) (gDec iX11_isBlack_ok 14 rfl) rfl ?_
        refine go_bipush (v := (-100)) (q := 29) (gDec iX11_isBlack_ok 15 rfl) (by decide) rfl ?_
        refine go_bipush (v := nI 100) (q := 31) (gDec iX11_isBlack_ok 16 rfl) (by decide) rfl ?_
        refine go_callS (n2 := 0) (q := 34) kX11_57 ctX11_in (gDec iX11_isBlack_ok 17 rfl) rfl rfl (Nat.le_of_ble_eq_true rfl) rfl (gFit_rm (by decide) (by decide)) rfl ?_
        refine go_top (v' := 0) (gWi_f (by (try rw [i2l_toInt]); exact h3)) ?_
        refine go_if_eq (t := 50) (q := 37) (gDec iX11_isBlack_ok 18 rfl) (by decide) rfl (fun c34 => ?_) (fun c34 => False.elim (c34 rfl))
        refine go_iconst (v := nI 2) (q := 51) (gDec iX11_isBlack_ok 25 rfl) (by decide) rfl ?_
        refine go_goto (t := 55) (gDec iX11_isBlack_ok 26 rfl) (by decide) ?_
        refine go_puti (q := 58) fX11_54 gft11 (gDec iX11_isBlack_ok 28 rfl) rfl (by decide) rfl rfl rfl rfl ?_
        refine go_aload_n (q := 59) (gDec iX11_isBlack_ok 29 rfl) rfl rfl rfl ?_
        refine go_geti (q := 62) fX11_54 (gDec iX11_isBlack_ok 30 rfl) rfl (by decide) rfl ?_
        refine go_top (v' := nI 2) rfl ?_
        refine go_if_ne (t := 81) (q := 65) (gDec iX11_isBlack_ok 31 rfl) (by decide) rfl (fun c62 => ?_) (fun c62 => False.elim (absurd c62 (by decide)))
        refine go_iconst (v := nI 0) (q := 82) (gDec iX11_isBlack_ok 41 rfl) (by decide) rfl ?_
        exact go_ireturn (gDec iX11_isBlack_ok 42 rfl) rfl rfl rfl (congrArg (gPut σ 376 5) xc_OA_A) (by decide)
    · rw [if_neg (fun h9 => h2 h9.1)]
      refine go_aload_n (q := 1) (gDec iX11_isBlack_ok 0 rfl) rfl rfl rfl ?_
      refine go_aload_n (q := 2) (gDec iX11_isBlack_ok 1 rfl) rfl rfl rfl ?_
      refine go_iload_n (q := 3) (gDec iX11_isBlack_ok 2 rfl) rfl rfl rfl ?_
      refine go_callV (n2 := 0) (q := 6) kX11_65 (ctX11_isGlyph (τ := τ) hW hM) (gDec iX11_isBlack_ok 3 rfl) rfl rfl (by decide) rfl rfl rfl (Nat.le_of_ble_eq_true rfl) rfl (gFit_rm (by decide) (by decide)) rfl ?_
      refine go_top (v' := 1) (gWi_t (by (try rw [i2l_toInt]); exact h1)) ?_
      refine go_if_ne (t := 13) (q := 9) (gDec iX11_isBlack_ok 4 rfl) (by decide) rfl (fun c6 => ?_) (fun c6 => False.elim (absurd c6 (by decide)))
      refine go_iload_n (q := 14) (gDec iX11_isBlack_ok 7 rfl) rfl rfl rfl ?_
      refine go_i2l (q := 15) (gDec iX11_isBlack_ok 8 rfl) rfl ?_
      refine go_bipush (v := nI 6) (q := 17) (gDec iX11_isBlack_ok 9 rfl) (by decide) rfl ?_
      refine go_bipush (v := nI 60) (q := 19) (gDec iX11_isBlack_ok 10 rfl) (by decide) rfl ?_
      refine go_callS (n2 := 0) (q := 22) kX11_57 ctX11_in (gDec iX11_isBlack_ok 11 rfl) rfl rfl (Nat.le_of_ble_eq_true rfl) rfl (gFit_rm (by decide) (by decide)) rfl ?_
      refine go_top (v' := 0) (gWi_f (by (try rw [i2l_toInt]); exact h2)) ?_
      refine go_if_eq (t := 50) (q := 25) (gDec iX11_isBlack_ok 12 rfl) (by decide) rfl (fun c22 => ?_) (fun c22 => False.elim (c22 rfl))
      refine go_iconst (v := nI 2) (q := 51) (gDec iX11_isBlack_ok 25 rfl) (by decide) rfl ?_
      refine go_goto (t := 55) (gDec iX11_isBlack_ok 26 rfl) (by decide) ?_
      refine go_puti (q := 58) fX11_54 gft11 (gDec iX11_isBlack_ok 28 rfl) rfl (by decide) rfl rfl rfl rfl ?_
      refine go_aload_n (q := 59) (gDec iX11_isBlack_ok 29 rfl) rfl rfl rfl ?_
      refine go_geti (q := 62) fX11_54 (gDec iX11_isBlack_ok 30 rfl) rfl (by decide) rfl ?_
      refine go_top (v' := nI 2) rfl ?_
      refine go_if_ne (t := 81) (q := 65) (gDec iX11_isBlack_ok 31 rfl) (by decide) rfl (fun c62 => ?_) (fun c62 => False.elim (absurd c62 (by decide)))
      refine go_iconst (v := nI 0) (q := 82) (gDec iX11_isBlack_ok 41 rfl) (by decide) rfl ?_
      exact go_ireturn (gDec iX11_isBlack_ok 42 rfl) rfl rfl rfl (congrArg (gPut σ 376 5) xc_OA_A) (by decide)
  · rw [show fIsBlack τ g z c r = _ from if_neg h1]
    refine go_aload_n (q := 1) (gDec iX11_isBlack_ok 0 rfl) rfl rfl rfl ?_
    refine go_aload_n (q := 2) (gDec iX11_isBlack_ok 1 rfl) rfl rfl rfl ?_
    refine go_iload_n (q := 3) (gDec iX11_isBlack_ok 2 rfl) rfl rfl rfl ?_
    refine go_callV (n2 := 0) (q := 6) kX11_65 (ctX11_isGlyph (τ := τ) hW hM) (gDec iX11_isBlack_ok 3 rfl) rfl rfl (by decide) rfl rfl rfl (Nat.le_of_ble_eq_true rfl) rfl (gFit_rm (by decide) (by decide)) rfl ?_
    refine go_top (v' := 0) (gWi_f (by (try rw [i2l_toInt]); exact h1)) ?_
    refine go_if_ne (t := 13) (q := 9) (gDec iX11_isBlack_ok 4 rfl) (by decide) rfl (fun c6 => False.elim (c6 rfl)) (fun c6 => ?_)
    refine go_iconst (v := nI 1) (q := 10) (gDec iX11_isBlack_ok 5 rfl) (by decide) rfl ?_
    refine go_goto (t := 55) (gDec iX11_isBlack_ok 6 rfl) (by decide) ?_
    refine go_puti (q := 58) fX11_54 gft11 (gDec iX11_isBlack_ok 28 rfl) rfl (by decide) rfl rfl rfl rfl ?_
    refine go_aload_n (q := 59) (gDec iX11_isBlack_ok 29 rfl) rfl rfl rfl ?_
    refine go_geti (q := 62) fX11_54 (gDec iX11_isBlack_ok 30 rfl) rfl (by decide) rfl ?_
    refine go_top (v' := nI 1) rfl ?_
    refine go_if_ne (t := 81) (q := 65) (gDec iX11_isBlack_ok 31 rfl) (by decide) rfl (fun c62 => ?_) (fun c62 => False.elim (absurd c62 (by decide)))
    refine go_iconst (v := nI 0) (q := 82) (gDec iX11_isBlack_ok 41 rfl) (by decide) rfl ?_
    exact go_ireturn (gDec iX11_isBlack_ok 42 rfl) rfl rfl rfl (congrArg (gPut σ 376 5) xc_OA_O) (by decide)

set_option maxHeartbeats 4000000 in
set_option maxRecDepth 100000 in
theorem lpX11_bp2 {κ : gK} {Z : gZ} {σ τ : gST} {g l : Nat} {z : Int32} (hC : gCI τ) (hM : gMR τ (σ.1 377)) (hg : g < gNg τ) (hz : 6 ≤ z.toInt ∧ z.toInt ≤ 24) (hl : l < 35) : ∀ (m i : Nat) (a : Int32), i + m = 35 → Go κ mX11_blackPixels (gRm 9 0) Z 91 [(0, .ref (κ.2.1 + 376)), (1, .int (nI g)), (2, .int z), (3, .int (gLoop (fun k a => a + gPx τ z g k l) i m a)), (4, .int (-5 + nI l)), (5, .int (-5 + nI 35))] [] σ 0 → Go κ mX11_blackPixels (gRm 9 0) Z 57 [(0, .ref (κ.2.1 + 376)), (1, .int (nI g)), (2, .int z), (3, .int a), (4, .int (-5 + nI l)), (5, .int (-5 + nI i))] [] σ 0 := by
  have hW := hC.dw
  have h24 := hW.ng24
  intro m
  induction m with
  | zero =>
    intro i a hi h
    have hiN : i = 35 := by omega
    subst hiN
    refine go_iload (q := 59) (gDec iX11_blackPixels_ok 29 rfl) rfl rfl ?_
    refine go_bipush (v := 30) (q := 61) (gDec iX11_blackPixels_ok 30 rfl) (by decide) rfl ?_
    refine go_icmp_ge (t := 91) (q := 64) (gDec iX11_blackPixels_ok 31 rfl) (by decide) rfl (fun c61 => ?_) (fun c61 => False.elim (c61 (by decide)))
    exact h
  | succ m ih =>
    intro i a hi h
    have ih2 := ih (i + 1) ((fun k a => a + gPx τ z g k l) i a) (by omega) h
    cases hb : gXr τ z ((2 * (-5 + nI i) + 1) * 500) (-5 + nI l) g with
    | true =>
      refine go_iload (q := 59) (gDec iX11_blackPixels_ok 29 rfl) rfl rfl ?_
      refine go_bipush (v := 30) (q := 61) (gDec iX11_blackPixels_ok 30 rfl) (by decide) rfl ?_
      refine go_icmp_ge (t := 91) (q := 64) (gDec iX11_blackPixels_ok 31 rfl) (by decide) rfl (fun c61 => False.elim (absurd c61 (by rw [show (30 : Int32) = -5 + nI 35 from by decide]; exact Int32.not_le.mpr ((gCol_gt (F := -5) (i := 35) (n := i) (by decide) (by decide) (by omega)).mpr (by omega))))) (fun c61 => ?_)
      refine go_iload_n (q := 65) (gDec iX11_blackPixels_ok 32 rfl) rfl rfl rfl ?_
      refine go_aload_n (q := 66) (gDec iX11_blackPixels_ok 33 rfl) rfl rfl rfl ?_
      refine go_iload_n (q := 67) (gDec iX11_blackPixels_ok 34 rfl) rfl rfl rfl ?_
      refine go_iload_n (q := 68) (gDec iX11_blackPixels_ok 35 rfl) rfl rfl rfl ?_
      refine go_iload (q := 70) (gDec iX11_blackPixels_ok 36 rfl) rfl rfl ?_
      refine go_iload (q := 72) (gDec iX11_blackPixels_ok 37 rfl) rfl rfl ?_
      refine go_callV (n2 := 0) (q := 75) kX11_193 (ctX11_black (τ := τ) (k := -5 + nI l) (r := -5 + nI i) hC hM hg (by omega) (by rw [gCol_toInt (by decide) (by omega), show ((-5 : Int32)).toInt = -5 by decide]; omega) (by rw [gCol_toInt (by decide) (by omega), show ((-5 : Int32)).toInt = -5 by decide]; omega)) (gDec iX11_blackPixels_ok 38 rfl) rfl rfl (by decide) rfl rfl rfl (Nat.le_of_ble_eq_true rfl) rfl (gFit_rm (by decide) (by decide)) rfl ?_
      refine go_top (v' := 1) (by rw [hb]; rfl) ?_
      refine go_if_eq (t := 82) (q := 78) (gDec iX11_blackPixels_ok 39 rfl) (by decide) rfl (fun c75 => False.elim (absurd c75 (by decide))) (fun c75 => ?_)
      refine go_iconst (v := 1) (q := 79) (gDec iX11_blackPixels_ok 40 rfl) (by decide) rfl ?_
      refine go_goto (t := 83) (gDec iX11_blackPixels_ok 41 rfl) (by decide) ?_
      refine go_iadd (q := 84) (gDec iX11_blackPixels_ok 43 rfl) rfl ?_
      refine go_istore_n (q := 85) (gDec iX11_blackPixels_ok 44 rfl) rfl (by decide) rfl ?_
      refine go_iinc (v := -5 + nI (i + 1)) (q := 88) (gDec iX11_blackPixels_ok 45 rfl) rfl (gCol_1 _ i) (by decide) rfl ?_
      refine go_goto (t := 57) (gDec iX11_blackPixels_ok 46 rfl) (by decide) ?_
      rw [show (fun k a => a + gPx τ z g k l) i a = (a + 1) from (by show a + gPx τ z g i l = _; unfold gPx; rw [hb]; rfl)] at ih2
      refine go_sub (L' := [(0, .ref (κ.2.1 + 376)), (1, .int (nI g)), (2, .int z), (3, .int (a + 1)), (4, .int (-5 + nI l)), (5, .int (-5 + nI (i + 1)))]) ⟨rfl, rfl, rfl, rfl, rfl, rfl, trivial⟩ ?_
      exact ih2
    | false =>
      refine go_iload (q := 59) (gDec iX11_blackPixels_ok 29 rfl) rfl rfl ?_
      refine go_bipush (v := 30) (q := 61) (gDec iX11_blackPixels_ok 30 rfl) (by decide) rfl ?_
      refine go_icmp_ge (t := 91) (q := 64) (gDec iX11_blackPixels_ok 31 rfl) (by decide) rfl (fun c61 => False.elim (absurd c61 (by rw [show (30 : Int32) = -5 + nI 35 from by decide]; exact Int32.not_le.mpr ((gCol_gt (F := -5) (i := 35) (n := i) (by decide) (by decide) (by omega)).mpr (by omega))))) (fun c61 => ?_)
      refine go_iload_n (q := 65) (gDec iX11_blackPixels_ok 32 rfl) rfl rfl rfl ?_
      refine go_aload_n (q := 66) (gDec iX11_blackPixels_ok 33 rfl) rfl rfl rfl ?_
      refine go_iload_n (q := 67) (gDec iX11_blackPixels_ok 34 rfl) rfl rfl rfl ?_
      refine go_iload_n (q := 68) (gDec iX11_blackPixels_ok 35 rfl) rfl rfl rfl ?_
      refine go_iload (q := 70) (gDec iX11_blackPixels_ok 36 rfl) rfl rfl ?_
      refine go_iload (q := 72) (gDec iX11_blackPixels_ok 37 rfl) rfl rfl ?_
      refine go_callV (n2 := 0) (q := 75) kX11_193 (ctX11_black (τ := τ) (k := -5 + nI l) (r := -5 + nI i) hC hM hg (by omega) (by rw [gCol_toInt (by decide) (by omega), show ((-5 : Int32)).toInt = -5 by decide]; omega) (by rw [gCol_toInt (by decide) (by omega), show ((-5 : Int32)).toInt = -5 by decide]; omega)) (gDec iX11_blackPixels_ok 38 rfl) rfl rfl (by decide) rfl rfl rfl (Nat.le_of_ble_eq_true rfl) rfl (gFit_rm (by decide) (by decide)) rfl ?_
      refine go_top (v' := 0) (by rw [hb]; rfl) ?_
      refine go_if_eq (t := 82) (q := 78) (gDec iX11_blackPixels_ok 39 rfl) (by decide) rfl (fun c75 => ?_) (fun c75 => False.elim (c75 rfl))
      refine go_iconst (v := 0) (q := 83) (gDec iX11_blackPixels_ok 42 rfl) (by decide) rfl ?_
      refine go_iadd (q := 84) (gDec iX11_blackPixels_ok 43 rfl) rfl ?_
      refine go_istore_n (q := 85) (gDec iX11_blackPixels_ok 44 rfl) rfl (by decide) rfl ?_
      refine go_iinc (v := -5 + nI (i + 1)) (q := 88) (gDec iX11_blackPixels_ok 45 rfl) rfl (gCol_1 _ i) (by decide) rfl ?_
      refine go_goto (t := 57) (gDec iX11_blackPixels_ok 46 rfl) (by decide) ?_
      rw [show (fun k a => a + gPx τ z g k l) i a = (a + 0) from (by show a + gPx τ z g i l = _; unfold gPx; rw [hb]; rfl)] at ih2
      refine go_sub (L' := [(0, .ref (κ.2.1 + 376)), (1, .int (nI g)), (2, .int z), (3, .int (a + 0)), (4, .int (-5 + nI l)), (5, .int (-5 + nI (i + 1)))]) ⟨rfl, rfl, rfl, rfl, rfl, rfl, trivial⟩ ?_
      exact ih2

set_option maxHeartbeats 4000000 in
set_option maxRecDepth 100000 in
theorem lpX11_bp1 {κ : gK} {Z : gZ} {σ τ : gST} {g : Nat} {z : Int32} (hC : gCI τ) (hM : gMR τ (σ.1 377)) (h0 : σ.1 376 5 = 0) (hg : g < gNg τ) (hz : 6 ≤ z.toInt ∧ z.toInt ≤ 24) : ∀ (m i : Nat) (a : Int32), i + m = 35 → Go κ mX11_blackPixels (gRm 9 0) Z 97 [(0, .ref (κ.2.1 + 376)), (1, .int (nI g)), (2, .int z), (3, .int (gLoop (fun l a => a + sM (fun k => gPx τ z g k l) 0 35) i m a)), (4, .int (-5 + nI 35))] [] σ 0 → Go κ mX11_blackPixels (gRm 9 0) Z 39 [(0, .ref (κ.2.1 + 376)), (1, .int (nI g)), (2, .int z), (3, .int a), (4, .int (-5 + nI i))] [] σ 0 := by
  have hW := hC.dw
  have h24 := hW.ng24
  intro m
  induction m with
  | zero =>
    intro i a hi h
    have hiN : i = 35 := by omega
    subst hiN
    refine go_iload (q := 41) (gDec iX11_blackPixels_ok 21 rfl) rfl rfl ?_
    refine go_bipush (v := 30) (q := 43) (gDec iX11_blackPixels_ok 22 rfl) (by decide) rfl ?_
    refine go_icmp_ge (t := 97) (q := 46) (gDec iX11_blackPixels_ok 23 rfl) (by decide) rfl (fun c43 => ?_) (fun c43 => False.elim (c43 (by decide)))
    exact h
  | succ m ih =>
    intro i a hi h
    refine go_iload (q := 41) (gDec iX11_blackPixels_ok 21 rfl) rfl rfl ?_
    refine go_bipush (v := 30) (q := 43) (gDec iX11_blackPixels_ok 22 rfl) (by decide) rfl ?_
    refine go_icmp_ge (t := 97) (q := 46) (gDec iX11_blackPixels_ok 23 rfl) (by decide) rfl (fun c43 => False.elim (absurd c43 (by rw [show (30 : Int32) = -5 + nI 35 from by decide]; exact Int32.not_le.mpr ((gCol_gt (F := -5) (i := 35) (n := i) (by decide) (by decide) (by omega)).mpr (by omega))))) (fun c43 => ?_)
    refine go_aload_n (q := 47) (gDec iX11_blackPixels_ok 24 rfl) rfl rfl rfl ?_
    refine go_geti (q := 50) fX11_54 (gDec iX11_blackPixels_ok 25 rfl) rfl (by decide) rfl ?_
    refine go_if_ne (t := 97) (q := 53) (gDec iX11_blackPixels_ok 26 rfl) (by decide) rfl (fun c50 => False.elim (c50 h0)) (fun c50 => ?_)
    refine go_bipush (v := (-5)) (q := 55) (gDec iX11_blackPixels_ok 27 rfl) (by decide) rfl ?_
    refine go_istore (q := 57) (gDec iX11_blackPixels_ok 28 rfl) (by decide) rfl ?_
    refine go_sub (L' := [(0, .ref (κ.2.1 + 376)), (1, .int (nI g)), (2, .int z), (3, .int a), (4, .int (-5 + nI i)), (5, .int (-5 + nI 0))]) ⟨rfl, rfl, rfl, rfl, rfl, rfl, trivial⟩ ?_
    refine lpX11_bp2 (l := i) hC hM hg hz (by omega) 35 0 a (by omega) ?_
    rw [sM_a]
    refine go_iinc (v := -5 + nI (i + 1)) (q := 94) (gDec iX11_blackPixels_ok 47 rfl) rfl (gCol_1 _ i) (by decide) rfl ?_
    refine go_goto (t := 39) (gDec iX11_blackPixels_ok 48 rfl) (by decide) ?_
    refine go_sub (L' := [(0, .ref (κ.2.1 + 376)), (1, .int (nI g)), (2, .int z), (3, .int (a + sM (fun k => gPx τ z g k i) 0 35)), (4, .int (-5 + nI (i + 1)))]) ⟨rfl, rfl, rfl, rfl, rfl, trivial⟩ ?_
    exact ih (i + 1) ((fun l a => a + sM (fun k => gPx τ z g k l) 0 35) i a) (by omega) h

set_option maxHeartbeats 4000000 in
set_option maxRecDepth 100000 in
theorem ctX11_blackPixels {κ : gK} {σ τ : gST} {g z : Int32} (hC : gCI τ) (hM : gMR τ (σ.1 377)) : gCt κ mX11_blackPixels 9 [.ref (κ.2.1 + 376), .int g, .int z] σ (rI (aI (fBlackPixels τ g z).1)) (gPut σ 376 5 (xC kOA (fBlackPixels τ g z).1)) 0 := by
  have hW := hC.dw
  have h24 := hW.ng24
  refine ct_of (by decide +kernel) rfl (Nat.le_of_ble_eq_true rfl) rfl ?_
  by_cases h1 : gInG τ g
  · have hs : fBlackPixels τ g z = _ := if_pos h1
    rw [hs]
    obtain ⟨i, hi, rfl⟩ := gInG.ex h1
    rw [nA_nI (n := i) (by omega)]
    by_cases h2 : 6 ≤ z.toInt ∧ z.toInt ≤ 24
    · rw [if_pos h2, gBp_eq, show sM (fun l => sM (fun k => gPx τ z i k l) 0 35) 0 35 = gLoop (fun l a => a + sM (fun k => gPx τ z i k l) 0 35) 0 35 0 from rfl]
      refine go_aload_n (q := 1) (gDec iX11_blackPixels_ok 0 rfl) rfl rfl rfl ?_
      refine go_aload_n (q := 2) (gDec iX11_blackPixels_ok 1 rfl) rfl rfl rfl ?_
      refine go_iload_n (q := 3) (gDec iX11_blackPixels_ok 2 rfl) rfl rfl rfl ?_
      refine go_callV (n2 := 0) (q := 6) kX11_65 (ctX11_isGlyph (τ := τ) hW hM) (gDec iX11_blackPixels_ok 3 rfl) rfl rfl (by decide) rfl rfl rfl (Nat.le_of_ble_eq_true rfl) rfl (gFit_rm (by decide) (by decide)) rfl ?_
      refine go_top (v' := 1) (gWi_t (by (try rw [i2l_toInt]); exact h1)) ?_
      refine go_if_ne (t := 13) (q := 9) (gDec iX11_blackPixels_ok 4 rfl) (by decide) rfl (fun c6 => ?_) (fun c6 => False.elim (absurd c6 (by decide)))
      refine go_iload_n (q := 14) (gDec iX11_blackPixels_ok 7 rfl) rfl rfl rfl ?_
      refine go_i2l (q := 15) (gDec iX11_blackPixels_ok 8 rfl) rfl ?_
      refine go_bipush (v := nI 6) (q := 17) (gDec iX11_blackPixels_ok 9 rfl) (by decide) rfl ?_
      refine go_bipush (v := nI 24) (q := 19) (gDec iX11_blackPixels_ok 10 rfl) (by decide) rfl ?_
      refine go_callS (n2 := 0) (q := 22) kX11_57 ctX11_in (gDec iX11_blackPixels_ok 11 rfl) rfl rfl (Nat.le_of_ble_eq_true rfl) rfl (gFit_rm (by decide) (by decide)) rfl ?_
      refine go_top (v' := 1) (gWi_t (by (try rw [i2l_toInt]); exact h2)) ?_
      refine go_if_ne (t := 29) (q := 25) (gDec iX11_blackPixels_ok 12 rfl) (by decide) rfl (fun c22 => ?_) (fun c22 => False.elim (absurd c22 (by decide)))
      refine go_iconst (v := nI 0) (q := 30) (gDec iX11_blackPixels_ok 15 rfl) (by decide) rfl ?_
      refine go_puti (q := 33) fX11_54 gft11 (gDec iX11_blackPixels_ok 16 rfl) rfl (by decide) rfl rfl rfl rfl ?_
      refine go_iconst (v := 0) (q := 34) (gDec iX11_blackPixels_ok 17 rfl) (by decide) rfl ?_
      refine go_istore_n (q := 35) (gDec iX11_blackPixels_ok 18 rfl) rfl (by decide) rfl ?_
      refine go_bipush (v := (-5)) (q := 37) (gDec iX11_blackPixels_ok 19 rfl) (by decide) rfl ?_
      refine go_istore (q := 39) (gDec iX11_blackPixels_ok 20 rfl) (by decide) rfl ?_
      refine go_sub (L' := [(0, .ref (κ.2.1 + 376)), (1, .int (nI i)), (2, .int z), (3, .int 0), (4, .int (-5 + nI 0))]) ⟨rfl, rfl, rfl, rfl, rfl, trivial⟩ ?_
      refine lpX11_bp1 hC (gMRt hM) rfl hi h2 35 0 0 (by omega) ?_
      refine go_iload_n (q := 98) (gDec iX11_blackPixels_ok 49 rfl) rfl rfl rfl ?_
      exact go_ireturn (gDec iX11_blackPixels_ok 50 rfl) rfl rfl rfl rfl (by decide)
    · rw [if_neg h2]
      refine go_aload_n (q := 1) (gDec iX11_blackPixels_ok 0 rfl) rfl rfl rfl ?_
      refine go_aload_n (q := 2) (gDec iX11_blackPixels_ok 1 rfl) rfl rfl rfl ?_
      refine go_iload_n (q := 3) (gDec iX11_blackPixels_ok 2 rfl) rfl rfl rfl ?_
      refine go_callV (n2 := 0) (q := 6) kX11_65 (ctX11_isGlyph (τ := τ) hW hM) (gDec iX11_blackPixels_ok 3 rfl) rfl rfl (by decide) rfl rfl rfl (Nat.le_of_ble_eq_true rfl) rfl (gFit_rm (by decide) (by decide)) rfl ?_
      refine go_top (v' := 1) (gWi_t (by (try rw [i2l_toInt]); exact h1)) ?_
      refine go_if_ne (t := 13) (q := 9) (gDec iX11_blackPixels_ok 4 rfl) (by decide) rfl (fun c6 => ?_) (fun c6 => False.elim (absurd c6 (by decide)))
      refine go_iload_n (q := 14) (gDec iX11_blackPixels_ok 7 rfl) rfl rfl rfl ?_
      refine go_i2l (q := 15) (gDec iX11_blackPixels_ok 8 rfl) rfl ?_
      refine go_bipush (v := nI 6) (q := 17) (gDec iX11_blackPixels_ok 9 rfl) (by decide) rfl ?_
      refine go_bipush (v := nI 24) (q := 19) (gDec iX11_blackPixels_ok 10 rfl) (by decide) rfl ?_
      refine go_callS (n2 := 0) (q := 22) kX11_57 ctX11_in (gDec iX11_blackPixels_ok 11 rfl) rfl rfl (Nat.le_of_ble_eq_true rfl) rfl (gFit_rm (by decide) (by decide)) rfl ?_
      refine go_top (v' := 0) (gWi_f (by (try rw [i2l_toInt]); exact h2)) ?_
      refine go_if_ne (t := 29) (q := 25) (gDec iX11_blackPixels_ok 12 rfl) (by decide) rfl (fun c22 => False.elim (c22 rfl)) (fun c22 => ?_)
      refine go_iconst (v := nI 2) (q := 26) (gDec iX11_blackPixels_ok 13 rfl) (by decide) rfl ?_
      refine go_goto (t := 30) (gDec iX11_blackPixels_ok 14 rfl) (by decide) ?_
      refine go_puti (q := 33) fX11_54 gft11 (gDec iX11_blackPixels_ok 16 rfl) rfl (by decide) rfl rfl rfl rfl ?_
      refine go_iconst (v := nI 0) (q := 34) (gDec iX11_blackPixels_ok 17 rfl) (by decide) rfl ?_
      refine go_istore_n (q := 35) (gDec iX11_blackPixels_ok 18 rfl) rfl (by decide) rfl ?_
      refine go_bipush (v := (-5)) (q := 37) (gDec iX11_blackPixels_ok 19 rfl) (by decide) rfl ?_
      refine go_istore (q := 39) (gDec iX11_blackPixels_ok 20 rfl) (by decide) rfl ?_
      refine go_iload (q := 41) (gDec iX11_blackPixels_ok 21 rfl) rfl rfl ?_
      refine go_bipush (v := 30) (q := 43) (gDec iX11_blackPixels_ok 22 rfl) (by decide) rfl ?_
      refine go_icmp_ge (t := 97) (q := 46) (gDec iX11_blackPixels_ok 23 rfl) (by decide) rfl (fun c43 => False.elim (absurd c43 (by decide))) (fun c43 => ?_)
      refine go_aload_n (q := 47) (gDec iX11_blackPixels_ok 24 rfl) rfl rfl rfl ?_
      refine go_geti (q := 50) fX11_54 (gDec iX11_blackPixels_ok 25 rfl) rfl (by decide) rfl ?_
      refine go_top (v' := nI 2) rfl ?_
      refine go_if_ne (t := 97) (q := 53) (gDec iX11_blackPixels_ok 26 rfl) (by decide) rfl (fun c50 => ?_) (fun c50 => False.elim (absurd c50 (by decide)))
      refine go_iload_n (q := 98) (gDec iX11_blackPixels_ok 49 rfl) rfl rfl rfl ?_
      exact go_ireturn (gDec iX11_blackPixels_ok 50 rfl) rfl rfl rfl (congrArg (gPut σ 376 5) xc_OA_A) (by decide)
  · rw [show fBlackPixels τ g z = _ from if_neg h1]
    refine go_aload_n (q := 1) (gDec iX11_blackPixels_ok 0 rfl) rfl rfl rfl ?_
    refine go_aload_n (q := 2) (gDec iX11_blackPixels_ok 1 rfl) rfl rfl rfl ?_
    refine go_iload_n (q := 3) (gDec iX11_blackPixels_ok 2 rfl) rfl rfl rfl ?_
    refine go_callV (n2 := 0) (q := 6) kX11_65 (ctX11_isGlyph (τ := τ) hW hM) (gDec iX11_blackPixels_ok 3 rfl) rfl rfl (by decide) rfl rfl rfl (Nat.le_of_ble_eq_true rfl) rfl (gFit_rm (by decide) (by decide)) rfl ?_
    refine go_top (v' := 0) (gWi_f (by (try rw [i2l_toInt]); exact h1)) ?_
    refine go_if_ne (t := 13) (q := 9) (gDec iX11_blackPixels_ok 4 rfl) (by decide) rfl (fun c6 => False.elim (c6 rfl)) (fun c6 => ?_)
    refine go_iconst (v := nI 1) (q := 10) (gDec iX11_blackPixels_ok 5 rfl) (by decide) rfl ?_
    refine go_goto (t := 30) (gDec iX11_blackPixels_ok 6 rfl) (by decide) ?_
    refine go_puti (q := 33) fX11_54 gft11 (gDec iX11_blackPixels_ok 16 rfl) rfl (by decide) rfl rfl rfl rfl ?_
    refine go_iconst (v := nI 0) (q := 34) (gDec iX11_blackPixels_ok 17 rfl) (by decide) rfl ?_
    refine go_istore_n (q := 35) (gDec iX11_blackPixels_ok 18 rfl) rfl (by decide) rfl ?_
    refine go_bipush (v := (-5)) (q := 37) (gDec iX11_blackPixels_ok 19 rfl) (by decide) rfl ?_
    refine go_istore (q := 39) (gDec iX11_blackPixels_ok 20 rfl) (by decide) rfl ?_
    refine go_iload (q := 41) (gDec iX11_blackPixels_ok 21 rfl) rfl rfl ?_
    refine go_bipush (v := 30) (q := 43) (gDec iX11_blackPixels_ok 22 rfl) (by decide) rfl ?_
    refine go_icmp_ge (t := 97) (q := 46) (gDec iX11_blackPixels_ok 23 rfl) (by decide) rfl (fun c43 => False.elim (absurd c43 (by decide))) (fun c43 => ?_)
    refine go_aload_n (q := 47) (gDec iX11_blackPixels_ok 24 rfl) rfl rfl rfl ?_
    refine go_geti (q := 50) fX11_54 (gDec iX11_blackPixels_ok 25 rfl) rfl (by decide) rfl ?_
    refine go_top (v' := nI 1) rfl ?_
    refine go_if_ne (t := 97) (q := 53) (gDec iX11_blackPixels_ok 26 rfl) (by decide) rfl (fun c50 => ?_) (fun c50 => False.elim (absurd c50 (by decide)))
    refine go_iload_n (q := 98) (gDec iX11_blackPixels_ok 49 rfl) rfl rfl rfl ?_
    exact go_ireturn (gDec iX11_blackPixels_ok 50 rfl) rfl rfl rfl (congrArg (gPut σ 376 5) xc_OA_O) (by decide)

theorem go_dconst0 {κ : gK} {M : gM} {R : Room} {Z : gZ} {pc q : Nat} {L : gL} {st : List Value} {σ : gST} {n : Nat} (hd : decode M.2.1 pc = .ok (.dconst 0, 1)) (hq : pc + 1 = q) (kk : Go κ M R Z q L (.double 0 :: st) σ n) : Go κ M R Z pc L st σ n := by
  subst hq
  intro p e s m args below meth c H locs ls C hP hS hl
  exact lv_dconst0 C.1 C.2.1 hd (kk p e s m args below meth c H locs ls C hP hS hl)

def aD (o : gO) : UInt64 := match o with
  | .inl (some (.double x)) => x
  | _ => 0
set_option maxHeartbeats 4000000 in
set_option maxRecDepth 100000 in
theorem ctX11_meanAdvance {κ : gK} {σ τ : gST} (hC : gCI τ) (hM : gMR τ (σ.1 377)) (hn : 0 < gNg τ → vf_n64 (gMean τ)) : gCt κ mX11_meanAdvance 9 [.ref (κ.2.1 + 376)] σ (.inl (some (.double (aD (fMean τ).1)))) (gPut σ 376 5 (xC kR (fMean τ).1)) 0 := by
  have hW := hC.dw
  have h24 := hW.ng24
  refine ct_of (by decide +kernel) rfl (Nat.le_of_ble_eq_true rfl) rfl ?_
  by_cases h1 : gNg τ = 0
  · rw [show fMean τ = _ from if_pos h1]
    refine go_aload_n (q := 1) (gDec iX11_meanAdvance_ok 0 rfl) rfl rfl rfl ?_
    refine go_aload_n (q := 2) (gDec iX11_meanAdvance_ok 1 rfl) rfl rfl rfl ?_
    refine go_getr (r' := 377) (q := 5) fX11_9 (gDec iX11_meanAdvance_ok 2 rfl) rfl (by decide) rfl ?_
    refine go_iconst (v := nI 0) (q := 6) (gDec iX11_meanAdvance_ok 3 rfl) (by decide) rfl ?_
    refine go_top (v' := nI 0) (rfl) ?_
    refine go_ialdN (q := 7) (gDec iX11_meanAdvance_ok 4 rfl) rfl (by decide) (by omega) (by decide) rfl ?_
    refine go_top (v' := nI 0) ((hM.ng hW).trans (by rw [h1])) ?_
    refine go_if_ne (t := 14) (q := 10) (gDec iX11_meanAdvance_ok 5 rfl) (by decide) rfl (fun c7 => False.elim (c7 rfl)) (fun c7 => ?_)
    refine go_iconst (v := nI 1) (q := 11) (gDec iX11_meanAdvance_ok 6 rfl) (by decide) rfl ?_
    refine go_goto (t := 15) (gDec iX11_meanAdvance_ok 7 rfl) (by decide) ?_
    refine go_puti (q := 18) fX11_54 gft11 (gDec iX11_meanAdvance_ok 9 rfl) rfl (by decide) rfl rfl rfl rfl ?_
    refine go_aload_n (q := 19) (gDec iX11_meanAdvance_ok 10 rfl) rfl rfl rfl ?_
    refine go_geti (q := 22) fX11_54 (gDec iX11_meanAdvance_ok 11 rfl) rfl (by decide) rfl ?_
    refine go_top (v' := nI 1) rfl ?_
    refine go_if_le (t := 29) (q := 25) (gDec iX11_meanAdvance_ok 12 rfl) (by decide) rfl (fun c22 => False.elim (absurd c22 (by decide))) (fun c22 => ?_)
    refine go_dconst0 (q := 26) (gDec iX11_meanAdvance_ok 13 rfl) rfl ?_
    refine go_goto (t := 42) (gDec iX11_meanAdvance_ok 14 rfl) (by decide) ?_
    exact go_dreturn (gDec iX11_meanAdvance_ok 24 rfl) rfl rfl (congrArg (gPut σ 376 5) xc_R_R) (by decide)
  · rw [show fMean τ = _ from if_neg h1]
    refine go_aload_n (q := 1) (gDec iX11_meanAdvance_ok 0 rfl) rfl rfl rfl ?_
    refine go_aload_n (q := 2) (gDec iX11_meanAdvance_ok 1 rfl) rfl rfl rfl ?_
    refine go_getr (r' := 377) (q := 5) fX11_9 (gDec iX11_meanAdvance_ok 2 rfl) rfl (by decide) rfl ?_
    refine go_iconst (v := nI 0) (q := 6) (gDec iX11_meanAdvance_ok 3 rfl) (by decide) rfl ?_
    refine go_top (v' := nI 0) (rfl) ?_
    refine go_ialdN (q := 7) (gDec iX11_meanAdvance_ok 4 rfl) rfl (by decide) (by omega) (by decide) rfl ?_
    refine go_top (v' := nI (gNg τ)) (hM.ng hW) ?_
    refine go_if_ne (t := 14) (q := 10) (gDec iX11_meanAdvance_ok 5 rfl) (by decide) rfl (fun c7 => ?_) (fun c7 => False.elim (nI_ne0 (n := gNg τ) (by omega) (by omega) c7))
    refine go_iconst (v := nI 0) (q := 15) (gDec iX11_meanAdvance_ok 8 rfl) (by decide) rfl ?_
    refine go_puti (q := 18) fX11_54 gft11 (gDec iX11_meanAdvance_ok 9 rfl) rfl (by decide) rfl rfl rfl rfl ?_
    refine go_aload_n (q := 19) (gDec iX11_meanAdvance_ok 10 rfl) rfl rfl rfl ?_
    refine go_geti (q := 22) fX11_54 (gDec iX11_meanAdvance_ok 11 rfl) rfl (by decide) rfl ?_
    refine go_top (v' := nI 0) rfl ?_
    refine go_if_le (t := 29) (q := 25) (gDec iX11_meanAdvance_ok 12 rfl) (by decide) rfl (fun c22 => ?_) (fun c22 => False.elim (c22 (by decide)))
    refine go_aload_n (q := 30) (gDec iX11_meanAdvance_ok 15 rfl) rfl rfl rfl ?_
    refine go_callV (n2 := 0) (q := 33) kX11_235 (ctX11_advances (τ := τ) hC (gMRt hM)) (gDec iX11_meanAdvance_ok 16 rfl) rfl rfl (by decide) rfl rfl rfl (Nat.le_of_ble_eq_true rfl) rfl (gFit_rm (by decide) (by decide)) rfl ?_
    refine go_i2d (q := 34) (gDec iX11_meanAdvance_ok 17 rfl) rfl ?_
    refine go_aload_n (q := 35) (gDec iX11_meanAdvance_ok 18 rfl) rfl rfl rfl ?_
    refine go_getr (r' := 377) (q := 38) fX11_9 (gDec iX11_meanAdvance_ok 19 rfl) rfl (by decide) rfl ?_
    refine go_iconst (v := nI 0) (q := 39) (gDec iX11_meanAdvance_ok 20 rfl) (by decide) rfl ?_
    refine go_top (v' := nI 0) (rfl) ?_
    refine go_ialdN (q := 40) (gDec iX11_meanAdvance_ok 21 rfl) rfl (by decide) (by omega) (by decide) rfl ?_
    refine go_top (v' := nI (gNg τ)) ((gMRt hM).ng hW) ?_
    refine go_i2d (q := 41) (gDec iX11_meanAdvance_ok 22 rfl) rfl ?_
    refine go_ddiv (q := 42) (gDec iX11_meanAdvance_ok 23 rfl) (hn (by omega)) rfl ?_
    exact go_dreturn (gDec iX11_meanAdvance_ok 24 rfl) rfl rfl rfl (by decide)
