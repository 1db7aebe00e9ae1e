/-! ===== bits: masks, their xor, how many there are ===== -/
theorem gBit_two : ∀ m, m < 64 → (gBit m).toBitVec = BitVec.twoPow 64 m := by decide +kernel
theorem gMsk_bit {P : Nat → Bool} {j : Nat} : ∀ (m : Nat), m ≤ 64 → (gMsk P m).toBitVec.getLsbD j = (decide (j < m) && P j)
  | 0, _ => by
    show (0 : Int64).toBitVec.getLsbD j = _
    simp
  | m + 1, h => by
    have ih := gMsk_bit (P := P) (j := j) m (by omega)
    unfold gMsk
    cases hp : P m with
    | true =>
      show ((gMsk P m) ||| (gBit m)).toBitVec.getLsbD j = _
      rw [Int64.toBitVec_or, BitVec.getLsbD_or, ih, gBit_two m (by omega), BitVec.getLsbD_twoPow]
      by_cases h1 : j = m
      · subst h1
        simp [hp]
        omega
      · rcases Nat.lt_or_ge j m with h2 | h2
        · simp [h2, show j < m + 1 by omega, show ¬ m = j by omega]
        · simp [show ¬ j < m by omega, show ¬ j < m + 1 by omega, show ¬ m = j by omega]
    | false =>
      show (gMsk P m).toBitVec.getLsbD j = _
      rw [ih]
      by_cases h1 : j = m
      · subst h1
        simp [hp]
      · rcases Nat.lt_or_ge j m with h2 | h2
        · simp [h2, show j < m + 1 by omega]
        · simp [show ¬ j < m by omega, show ¬ j < m + 1 by omega]
theorem gMsk_xor (P Q : Nat → Bool) {m : Nat} (h : m ≤ 64) : gMsk P m ^^^ gMsk Q m = gMsk (fun k => Bool.xor (P k) (Q k)) m := by
  apply Int64.toBitVec_inj.mp
  apply BitVec.eq_of_getLsbD_eq
  intro i hi
  rw [Int64.toBitVec_xor, BitVec.getLsbD_xor, gMsk_bit m h, gMsk_bit m h, gMsk_bit m h]
  cases decide (i < m) <;> simp
theorem gMsk_congr {P Q : Nat → Bool} : ∀ (m : Nat), (∀ k, k < m → P k = Q k) → gMsk P m = gMsk Q m
  | 0, _ => rfl
  | m + 1, h => by
    unfold gMsk
    rw [h m (by omega), gMsk_congr m (fun k hk => h k (by omega))]
theorem gMsk_f : ∀ (m : Nat), gMsk (fun _ => false) m = 0
  | 0 => rfl
  | m + 1 => gMsk_f m
theorem gBb_E {τ : gST} {z r F : Int32} {n b d : Nat} {P : Nat → Bool} (hn : n + 1 ≤ 64) : gBb τ z r F n b d (gMsk P (n + 1)) = gMsk (fun k => Bool.xor (P k) (gE1 τ z r (F + nI k) b d)) (n + 1) := by
  unfold gBb gE1
  by_cases h1 : gYa τ b z r ≤ 0 ↔ gYa τ d z r ≤ 0
  · rw [if_pos h1]
    refine gMsk_congr _ (fun k _ => ?_)
    rw [if_pos h1]
    simp
  · rw [if_neg h1]
    by_cases h2 : gYa τ b z r < gYa τ d z r
    · rw [if_pos h2, gMsk_xor _ _ hn]
      refine gMsk_congr _ (fun k _ => ?_)
      rw [if_neg h1, if_pos h2]
    · rw [if_neg h2, gMsk_xor _ _ hn]
      refine gMsk_congr _ (fun k _ => ?_)
      rw [if_neg h1, if_neg h2]
theorem gBbC_E {τ : gST} {z r F : Int32} {n g c : Nat} (hn : n + 1 ≤ 64) : ∀ (m i : Nat) (P : Nat → Bool),
    gLoop (fun p a => gBb τ z r F n ((g * 3 + c) * 12 + p) ((g * 3 + c) * 12 + gNx (gNp τ g c) p) a) i m (gMsk P (n + 1)) = gMsk (fun k => gLoop (gXrP τ z r (F + nI k) g c) i m (P k)) (n + 1)
  | 0, _, _ => rfl
  | m + 1, i, P => by
    show gLoop _ (i + 1) m (gBb _ _ _ _ _ _ _ _) = _
    rw [gBb_E hn, gBbC_E hn m (i + 1)]
    rfl
theorem gBl_E {τ : gST} {z r F : Int32} {n g : Nat} (hn : n + 1 ≤ 64) : ∀ (m i : Nat) (P : Nat → Bool), gLoop (fun c a => gBbC τ z r F n g c a) i m (gMsk P (n + 1)) = gMsk (fun k => gLoop (gXrC τ z r (F + nI k) g) i m (P k)) (n + 1)
  | 0, _, _ => rfl
  | m + 1, i, P => by
    show gLoop _ (i + 1) m (gBbC _ _ _ _ _ _ _ _) = _
    unfold gBbC
    rw [gBbC_E hn]
    have h := gBl_E (τ := τ) (z := z) (r := r) (F := F) (g := g) hn m (i + 1) (fun k => gLoop (gXrP τ z r (F + nI k) g i) 0 (gNp τ g i) (P k))
    unfold gBbC at h
    rw [h]
    rfl
theorem gBlack_E {τ : gST} {z r F : Int32} {n g : Nat} (hn : n + 1 ≤ 64) : gBlack τ z r F n g = gMsk (fun k => gXr τ z r (F + nI k) g) (n + 1) := by
  have h := gBl_E (τ := τ) (z := z) (r := r) (F := F) (g := g) hn (gNc τ g) 0 (fun _ => false)
  rw [gMsk_f] at h
  exact h
theorem gBlack_0 {τ : gST} {z r F : Int32} {g : Nat} : (if gBlack τ z r F 0 g = 0 then (0 : Int32) else 1) = bI (gXr τ z r F g) := by
  rw [gBlack_E (by decide)]
  unfold gMsk
  rw [show F + nI 0 = F from (by rw [show nI 0 = (0 : Int32) from rfl, Int32.add_zero])]
  cases gXr τ z r F g with
  | false => show (if (0 : Int64) = 0 then (0 : Int32) else 1) = bI false; decide +kernel
  | true => show (if ((0 : Int64) ||| 1) = 0 then (0 : Int32) else 1) = bI true; decide +kernel
/-- the byte-wise pipeline -/
def hM (m : Nat) : Nat → Nat
  | 0 => 0
  | k + 1 => m + 256 * hM m k
theorem hM_s (m k : Nat) : hM m (k + 1) = m + 256 * hM m k := rfl
theorem hAnd {b m y M : Nat} (hb : b < 256) (hm : m < 256) : (b + 256 * y) &&& (m + 256 * M) = (b &&& m) + 256 * (y &&& M) := by
  have h1 := Nat.mod_add_div ((b + 256 * y) &&& (m + 256 * M)) 256
  have h2 : ((b + 256 * y) &&& (m + 256 * M)) % 256 = b &&& m := by
    rw [show 256 = 2 ^ 8 from rfl, Nat.and_mod_two_pow]
    rw [show (b + 2 ^ 8 * y) % 2 ^ 8 = b by omega, show (m + 2 ^ 8 * M) % 2 ^ 8 = m by omega]
  have h3 : ((b + 256 * y) &&& (m + 256 * M)) / 256 = y &&& M := by
    rw [show 256 = 2 ^ 8 from rfl, Nat.and_div_two_pow]
    rw [show (b + 2 ^ 8 * y) / 2 ^ 8 = y by omega, show (m + 2 ^ 8 * M) / 2 ^ 8 = M by omega]
  rw [h2, h3] at h1
  exact h1.symm
def hQ1 (k x : Nat) : Nat := x - ((x / 2) &&& hM 85 k)
def hQ2 (k x : Nat) : Nat := (x &&& hM 51 k) + ((x / 4) &&& hM 51 k)
def hQ3 (k x : Nat) : Nat := (x + x / 16) &&& hM 15 k
def hS1 (a : Nat) : Nat := a - ((a / 2) &&& 85)
def hS2 (a : Nat) : Nat := (hS1 a &&& 51) + ((hS1 a / 4) &&& 51)
def hPc (a : Nat) : Nat := a % 2 + (a / 2 % 2 + (a / 4 % 2 + (a / 8 % 2 + (a / 16 % 2 + (a / 32 % 2 + (a / 64 % 2 + a / 128 % 2))))))
theorem hD1 : ∀ a, a < 256 → ∀ r, r < 2 → (a / 2 + 128 * r) &&& 85 = (a / 2) &&& 85 ∧ (a / 2) &&& 85 ≤ a ∧ hS1 a < 256 := by decide +kernel
theorem hD2 : ∀ a, a < 256 → ∀ r, r < 4 → (a / 4 + 64 * r) &&& 51 = (a / 4) &&& 51 := by decide +kernel
theorem hD3 : ∀ a, a < 256 → ∀ r, r < 5 → (hS2 a + hS2 a / 16 + 16 * r) &&& 15 = hPc a ∧ hS2 a + hS2 a / 16 + 16 * r < 256 ∧ hS2 a % 16 ≤ 4 ∧ hPc a ≤ 8 := by decide +kernel
theorem hQ1_s {k a y : Nat} (ha : a < 256) : hQ1 (k + 1) (a + 256 * y) = hS1 a + 256 * hQ1 k y := by
  unfold hQ1 hS1
  have h := hD1 a ha (y % 2) (by omega)
  rw [hM_s, show (a + 256 * y) / 2 = (a / 2 + 128 * (y % 2)) + 256 * (y / 2) by omega, hAnd (by omega) (by decide), h.1]
  have h2 : (y / 2) &&& hM 85 k ≤ y / 2 := Nat.and_le_left
  have h3 := h.2.1
  omega
theorem hQ2_s {k b y : Nat} (hb : b < 256) : hQ2 (k + 1) (b + 256 * y) = ((b &&& 51) + ((b / 4) &&& 51)) + 256 * hQ2 k y := by
  unfold hQ2
  have h := hD2 b hb (y % 4) (by omega)
  rw [hM_s, show (b + 256 * y) / 4 = (b / 4 + 64 * (y % 4)) + 256 * (y / 4) by omega, hAnd hb (by decide), hAnd (by omega) (by decide), h]
  omega
def hQ (k x : Nat) : Nat := hQ2 k (hQ1 k x)
theorem hQ_s {k a y : Nat} (ha : a < 256) : hQ (k + 1) (a + 256 * y) = hS2 a + 256 * hQ k y := by
  unfold hQ
  rw [hQ1_s ha, hQ2_s (hD1 a ha 0 (by decide)).2.2]
  rfl
theorem hQ_4 (k y : Nat) : hQ k y % 16 ≤ 4 := by
  cases k with
  | zero =>
    unfold hQ hQ2 hM
    simp
  | succ k =>
    have h := hQ_s (k := k) (a := y % 256) (y := y / 256) (by omega)
    rw [show y % 256 + 256 * (y / 256) = y by omega] at h
    have h2 := (hD3 (y % 256) (by omega) 0 (by decide)).2.2.1
    rw [h]
    omega
theorem hF_s {k a y : Nat} (ha : a < 256) : hQ3 (k + 1) (hQ (k + 1) (a + 256 * y)) = hPc a + 256 * hQ3 k (hQ k y) := by
  rw [hQ_s ha]
  have h4 := hQ_4 k y
  have h := hD3 a ha (hQ k y % 16) (by omega)
  have h5 := h.2.1
  unfold hQ3
  rw [hM_s, show hS2 a + 256 * hQ k y + (hS2 a + 256 * hQ k y) / 16 = (hS2 a + hS2 a / 16 + 16 * (hQ k y % 16)) + 256 * (hQ k y + hQ k y / 16) by omega, hAnd h5 (by decide), h.1]
/-- bits as a number; how many there are -/
def vN (P : Nat → Bool) : Nat → Nat
  | 0 => 0
  | m + 1 => (P 0).toNat + 2 * vN (fun i => P (i + 1)) m
def cN (P : Nat → Bool) : Nat → Nat
  | 0 => 0
  | m + 1 => (P 0).toNat + cN (fun i => P (i + 1)) m
theorem vN_8 (P : Nat → Bool) (m : Nat) : vN P (m + 8) = vN P 8 + 256 * vN (fun i => P (i + 8)) m := by
  simp only [vN]
  rw [show vN (fun i => P (i + 1 + 1 + 1 + 1 + 1 + 1 + 1 + 1)) m = vN (fun i => P (i + 8)) m from rfl]
  omega
theorem cN_8 (P : Nat → Bool) (m : Nat) : cN P (m + 8) = cN P 8 + cN (fun i => P (i + 8)) m := by
  simp only [cN]
  rw [show cN (fun i => P (i + 1 + 1 + 1 + 1 + 1 + 1 + 1 + 1)) m = cN (fun i => P (i + 8)) m from rfl]
  omega
theorem hB8 : ∀ a b c d e f g h : Bool, hPc (a.toNat + 2 * (b.toNat + 2 * (c.toNat + 2 * (d.toNat + 2 * (e.toNat + 2 * (f.toNat + 2 * (g.toNat + 2 * (h.toNat + 2 * 0)))))))) = a.toNat + (b.toNat + (c.toNat + (d.toNat + (e.toNat + (f.toNat + (g.toNat + (h.toNat + 0))))))) ∧
    a.toNat + 2 * (b.toNat + 2 * (c.toNat + 2 * (d.toNat + 2 * (e.toNat + 2 * (f.toNat + 2 * (g.toNat + 2 * (h.toNat + 2 * 0))))))) < 256 := by decide +kernel
theorem pc_8 (P : Nat → Bool) : hPc (vN P 8) = cN P 8 ∧ vN P 8 < 256 := hB8 (P 0) (P 1) (P 2) (P 3) (P 4) (P 5) (P 6) (P 7)
theorem cN_le (P : Nat → Bool) : cN P 8 ≤ 8 := by
  rw [← (pc_8 P).1]
  exact (hD3 _ (pc_8 P).2 0 (by decide)).2.2.2
theorem hF_P (k : Nat) (P : Nat → Bool) : hQ3 (k + 1) (hQ (k + 1) (vN P (8 * (k + 1)))) = cN P 8 + 256 * hQ3 k (hQ k (vN (fun i => P (i + 8)) (8 * k))) := by
  rw [show 8 * (k + 1) = 8 * k + 8 by omega, vN_8, hF_s (pc_8 P).2, (pc_8 P).1]
theorem hF_0 (x : Nat) : hQ3 0 x = 0 := by
  unfold hQ3 hM
  simp
theorem hF_8 (P : Nat → Bool) : ∃ c0 c1 c2 c3 c4 c5 c6 c7 : Nat, (c0 ≤ 8 ∧ c1 ≤ 8 ∧ c2 ≤ 8 ∧ c3 ≤ 8 ∧ c4 ≤ 8 ∧ c5 ≤ 8 ∧ c6 ≤ 8 ∧ c7 ≤ 8) ∧ hQ3 8 (hQ 8 (vN P 64)) = c0 + 256 * (c1 + 256 * (c2 + 256 * (c3 + 256 * (c4 + 256 * (c5 + 256 * (c6 + 256 * (c7 + 256 * 0))))))) ∧ cN P 64 = c0 + (c1 + (c2 + (c3 + (c4 + (c5 + (c6 + c7)))))) := by
  refine ⟨cN P 8, cN (fun i => P (i + 8)) 8, cN (fun i => P (i + 8 + 8)) 8, cN (fun i => P (i + 8 + 8 + 8)) 8, cN (fun i => P (i + 8 + 8 + 8 + 8)) 8, cN (fun i => P (i + 8 + 8 + 8 + 8 + 8)) 8, cN (fun i => P (i + 8 + 8 + 8 + 8 + 8 + 8)) 8, cN (fun i => P (i + 8 + 8 + 8 + 8 + 8 + 8 + 8)) 8, ⟨cN_le P, cN_le _, cN_le _, cN_le _, cN_le _, cN_le _, cN_le _, cN_le _⟩, ?_, ?_⟩
  rotate_left
  · rw [cN_8 _ 56, cN_8 _ 48, cN_8 _ 40, cN_8 _ 32, cN_8 _ 24, cN_8 _ 16, cN_8 _ 8]
  · rw [show (64 : Nat) = 8 * (7 + 1) from rfl, hF_P 7, show 8 * 7 = 8 * (6 + 1) from rfl, hF_P 6, show 8 * 6 = 8 * (5 + 1) from rfl, hF_P 5, show 8 * 5 = 8 * (4 + 1) from rfl, hF_P 4, show 8 * 4 = 8 * (3 + 1) from rfl, hF_P 3, show 8 * 3 = 8 * (2 + 1) from rfl, hF_P 2, show 8 * 2 = 8 * (1 + 1) from rfl, hF_P 1, show 8 * 1 = 8 * (0 + 1) from rfl, hF_P 0, hF_0]
