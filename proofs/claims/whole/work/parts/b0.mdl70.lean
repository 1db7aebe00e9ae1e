/-! the law, case by case -/
def gX (κ : gK) (j : Nat) : Int32 := κ.2.2.2.2.2.2 (nI j).toNatClampNeg
theorem lg_cmp_s (x : Int64) : lg_cmp x x = 0 := by
  unfold lg_cmp
  rw [if_neg (Int64.lt_irrefl), if_pos rfl]
theorem lg_cmp_e {x y : Int64} (h : x = y) : lg_cmp x y = 0 := by rw [h]; exact lg_cmp_s y
theorem lw_out {f : gO × gST} {s' : gST} {v : Int32} (he : f.1 = rI v) (h : s'.2 = (gOo f).2) : s'.2.1 = v.toInt64 := by rw [h, gOo_i he]
theorem lw_cmp {f : gO × gST} {s' : gST} {v : Int32} (he : f.1 = rI v) (h : s'.2 = (gOo f).2) : lg_cmp s'.2.1 (aI f.1).toInt64 = 0 := lg_cmp_e (by rw [lw_out he h, he]; rfl)
theorem r_isBlack {σ : gST} {a1 a2 a3 a4 : Int32} : ((fIsBlack σ a1 a2 a3 a4).1 = rI 0 ∨ (fIsBlack σ a1 a2 a3 a4).1 = rI 1) ∨ ¬ xC kOA (fIsBlack σ a1 a2 a3 a4).1 = 0 := by
  rcases o_isBlack (σ := σ) (a1 := a1) (a2 := a2) (a3 := a3) (a4 := a4) with h | h | h
  · exact Or.inl h
  · exact Or.inr (by rw [h, xc_OA_O]; decide)
  · exact Or.inr (by rw [h, xc_OA_A]; decide)
theorem i2c_r (x : Int32) : 0 ≤ (x.toUInt32 % 65536).toInt32.toInt ∧ (x.toUInt32 % 65536).toInt32.toInt ≤ 65535 := by
  have h : (x.toUInt32 % 65536).toNat < 65536 := by
    rw [UInt32.toNat_mod]
    exact Nat.mod_lt _ (by decide)
  have e : (x.toUInt32 % 65536).toInt32.toInt = ((x.toUInt32 % 65536).toNat : Int) := by
    show (x.toUInt32 % 65536).toBitVec.toInt = _
    rw [BitVec.toInt_eq_toNat_of_lt]
    · rfl
    · show 2 * (x.toUInt32 % 65536).toNat < 2 ^ 32
      omega
  omega
theorem x63 (x : Int32) : ∃ j : Nat, j < 64 ∧ x &&& 63 = nI j := by
  have h : (x &&& 63).toBitVec.toNat < 64 := by
    rw [Int32.toBitVec_and, BitVec.toNat_and]
    exact Nat.lt_of_le_of_lt Nat.and_le_right (by decide)
  refine ⟨(x &&& 63).toBitVec.toNat, h, ?_⟩
  refine Int32.toInt_inj.mp ?_
  rw [nI_toInt (by omega)]
  show (x &&& 63).toBitVec.toInt = _
  rw [BitVec.toInt_eq_toNat_of_lt]
  omega

theorem g01_0 : g01 0 := Or.inl rfl
theorem g01_1 : g01 1 := Or.inr rfl
theorem lw_dc {r : UInt64} (h : vf_n64 r) : Op.cmpValue (FP.dcmp r r) .l = 0 := by rw [fp_cmp h]; rfl
