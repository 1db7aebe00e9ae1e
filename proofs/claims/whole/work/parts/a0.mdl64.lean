/-! the mean is a number: what rounding gives is none of the NaNs -/
def gGd : FP.Core.Datum → Prop
  | .nan => False
  | .inf _ => True
  | .fin _ c q => c < 9007199254740992 ∧ q ≤ 971
theorem fp_tails : FP.Core.Fmt.tails FP.Core.b64 = 4503599627370496 := by decide +kernel
theorem fp_exps : FP.Core.Fmt.exps FP.Core.b64 = 2048 := by decide +kernel
theorem fp_qmin : FP.Core.Fmt.qmin FP.Core.b64 = -1074 := by decide +kernel
theorem fp_qmax : FP.Core.Fmt.qmax FP.Core.b64 = 971 := by decide +kernel
theorem fp_enc {d : FP.Core.Datum} (h : gGd d) : FP.Core.encode FP.Core.b64 d < 18446744073709551616 ∧ FP.Core.encode FP.Core.b64 d % 9223372036854775808 ≤ 9218868437227405312 := by
  cases d with
  | nan => exact h.elim
  | inf s => cases s <;> decide +kernel
  | fin s c q =>
    obtain ⟨h1, h2⟩ := h
    have hs : s.toNat ≤ 1 := by cases s <;> decide
    unfold FP.Core.encode FP.Core.assemble
    dsimp only
    rw [fp_tails, fp_exps, fp_qmin]
    split
    · omega
    · have : (q - -1074).toNat ≤ 2045 := by omega
      omega
theorem fp_rr (s : Bool) (num den : Nat) (e : Int) : gGd (FP.Core.roundRatio FP.Core.b64 s num den e) := by
  unfold FP.Core.roundRatio
  split
  · show 0 < 9007199254740992 ∧ FP.Core.Fmt.qmin FP.Core.b64 ≤ 971
    rw [fp_qmin]; decide
  · unfold FP.Core.roundAt FP.Core.settle
    split
    · rename_i h1
      unfold FP.Core.bound
      split
      · rename_i h2
        rw [fp_qmax] at h2
        exact ⟨Nat.lt_of_lt_of_le h1 (by decide), h2⟩
      · trivial
    · unfold FP.Core.bound
      split
      · rename_i h2
        rw [fp_qmax] at h2
        exact ⟨by rw [fp_tails]; decide, h2⟩
      · trivial
theorem fp_dec {n : Nat} (h : n % 9223372036854775808 ≤ 9218868437227405312) : FP.Core.decode FP.Core.b64 n ≠ .nan := by
  unfold FP.Core.decode FP.Core.fieldE FP.Core.fieldT
  rw [fp_tails, fp_exps]
  intro h9
  split at h9
  · split at h9
    · cases h9
    · omega
  · split at h9 <;> cases h9
theorem fp_vi {r : UInt64} : vf_n64 r ↔ r.toNat % 9223372036854775808 ≤ 9218868437227405312 := by
  unfold vf_n64
  rw [UInt64.le_iff_toNat_le, UInt64.toNat_and, show (0x7fffffffffffffff : UInt64).toNat = 2 ^ 63 - 1 from rfl, Nat.and_two_pow_sub_one_eq_mod]
  exact Iff.rfl
theorem fp_of {d : FP.Core.Datum} (h : gGd d) : (UInt64.ofNat (FP.Core.encode FP.Core.b64 d)).toNat = FP.Core.encode FP.Core.b64 d := by
  rw [UInt64.toNat_ofNat']
  exact Nat.mod_eq_of_lt (fp_enc h).1
theorem fp_vf {d : FP.Core.Datum} (h : gGd d) : vf_n64 (UInt64.ofNat (FP.Core.encode FP.Core.b64 d)) := by
  rw [fp_vi, fp_of h]
  exact (fp_enc h).2
theorem fp_i2d (s : Int32) : FP.Core.decode FP.Core.b64 (FP.i2d s).toNat ≠ .nan := by
  have h : gGd (FP.Core.round FP.Core.b64 (FP.Core.ofInt s.toInt)) := fp_rr _ _ _ _
  have e : (FP.i2d s).toNat = FP.Core.encode FP.Core.b64 (FP.Core.round FP.Core.b64 (FP.Core.ofInt s.toInt)) := fp_of h
  rw [e]
  exact fp_dec (fp_enc h).2
theorem fp_24 {n : Nat} (h0 : 0 < n) (h : n ≤ 24) : ∃ t d r, FP.Core.decode FP.Core.b64 (FP.i2d (nI n)).toNat = .fin t d r ∧ d ≠ 0 := by
  have hl : (List.range 25).all (fun n => Nat.beq n 0 || (match FP.Core.decode FP.Core.b64 (FP.i2d (nI n)).toNat with | .fin _ d _ => !(Nat.beq d 0) | _ => false)) = true := by decide +kernel
  have h1 := List.all_eq_true.mp hl n (List.mem_range.mpr (by omega))
  cases hd : FP.Core.decode FP.Core.b64 (FP.i2d (nI n)).toNat with
  | nan => rw [hd] at h1; cases n with
    | zero => exact absurd h0 (by decide)
    | succ k => cases h1
  | inf s => rw [hd] at h1; cases n with
    | zero => exact absurd h0 (by decide)
    | succ k => cases h1
  | fin t d r =>
    rw [hd] at h1
    refine ⟨t, d, r, rfl, fun h9 => ?_⟩
    subst h9
    cases n with
    | zero => exact absurd h0 (by decide)
    | succ k => cases h1
theorem fp_quo {x y : FP.Core.Datum} (hx : x ≠ .nan) {t : Bool} {d : Nat} {r : Int} (hy : y = .fin t d r) (hd : d ≠ 0) : gGd (FP.Core.quotient FP.Core.b64 x y) := by
  subst hy
  cases x with
  | nan => exact absurd rfl hx
  | inf s => trivial
  | fin s c q =>
    show gGd (if d = 0 then (if c = 0 then .nan else .inf (s != t)) else FP.Core.roundRatio FP.Core.b64 (s != t) c d (q - r))
    rw [if_neg hd]
    exact fp_rr _ _ _ _
/-- the mean advance is no NaN -/
theorem gMean_n {σ : gST} (h0 : 0 < gNg σ) (h : gNg σ ≤ 24) : vf_n64 (gMean σ) := by
  obtain ⟨t, d, r, q1, q2⟩ := fp_24 h0 h
  exact fp_vf (fp_quo (fp_i2d _) q1 q2)
theorem fp_cmp {r : UInt64} (h : vf_n64 r) : FP.dcmp r r = some .eq := by
  have h1 := fp_dec (fp_vi.mp h)
  show FP.Core.order (FP.Core.decode FP.Core.b64 r.toNat) (FP.Core.decode FP.Core.b64 r.toNat) = _
  have cmp : ∀ z : Int, compare z z = .eq := fun z => by
    show (if z < z then Ordering.lt else if z = z then .eq else .gt) = .eq
    rw [if_neg (Int.lt_irrefl z), if_pos rfl]
  cases hd : FP.Core.decode FP.Core.b64 r.toNat with
  | nan => exact absurd hd h1
  | inf s => exact congrArg some (cmp _)
  | fin s c q => exact congrArg some (cmp _)
