/-- only stems change -/
theorem gCI.stm {τ τ' : gST} (hC : gCI τ) (ho : ∀ k, 1 ≤ k → k < 36 → k ≠ 31 → k ≠ 33 → k ≠ 35 → τ'.1 k = τ.1 k) (h31 : gBd (τ'.1 31) 24 0 4) (hS : gSW τ') (h0 : ∀ g, gNg τ ≤ g → g < 24 → τ'.1 31 g = 0) : gCI τ' := by
  have hW := hC.dw
  have hH : ∀ k, 1 ≤ k → k < 36 → (k ≠ 31 ∧ k ≠ 33 ∧ k ≠ 35) → τ'.1 k = τ.1 k := fun k q0 q1 q2 => ho k q0 q1 q2.1 q2.2.1 q2.2.2
  have e : gNg τ' = gNg τ := by unfold gNg; rw [hH 2 (by decide) (by decide) (by decide)]
  refine ⟨⟨?_, ?_, ?_, ?_, ?_, ?_, h31⟩, ?_, ?_, ⟨?_, ?_⟩, hS, ?_⟩
  · rw [hH 2 (by decide) (by decide) (by decide)]; exact hW.1
  · rw [hH 6 (by decide) (by decide) (by decide)]; exact hW.2.1
  · rw [hH 8 (by decide) (by decide) (by decide)]; exact hW.2.2.1
  · rw [hH 17 (by decide) (by decide) (by decide)]; exact hW.2.2.2.1
  · rw [hH 22 (by decide) (by decide) (by decide)]; exact hW.2.2.2.2.1
  · rw [hH 24 (by decide) (by decide) (by decide)]; exact hW.2.2.2.2.2.1
  · exact hC.lw.c (hH 2 (by decide) (by decide) (by decide)) (hH 17 (by decide) (by decide) (by decide))
  · exact hC.po.c (hH 2 (by decide) (by decide) (by decide)) (hH 6 (by decide) (by decide) (by decide)) (hH 8 (by decide) (by decide) (by decide)) (hH 10 (by decide) (by decide) (by decide)) (hH 12 (by decide) (by decide) (by decide))
  · rw [e, hH 4 (by decide) (by decide) (by decide)]; exact hC.gw.1
  · rw [e, hH 6 (by decide) (by decide) (by decide), hH 22 (by decide) (by decide) (by decide), hH 24 (by decide) (by decide) (by decide), hH 15 (by decide) (by decide) (by decide)]
    intro g hg hg2
    obtain ⟨q1, q2, q3⟩ := hC.gw.2 g hg hg2
    exact ⟨q1, h0 g hg hg2, q3⟩
  · exact hC.kw.c (hH 26 (by decide) (by decide) (by decide)) (hH 28 (by decide) (by decide) (by decide)) (hH 20 (by decide) (by decide) (by decide)) (hH 1 (by decide) (by decide) (by decide))
theorem gMR.stm {τ τ' : gST} {s s' : Nat → Int32} {i : Nat} (hM : gMR τ s) (hW : gDW τ) (hi : i < gNg τ) (ho : ∀ k, 1 ≤ k → k < 36 → k ≠ 31 → k ≠ 33 → k ≠ 35 → τ'.1 k = τ.1 k)
    (e31 : ∀ g, g ≠ i → τ'.1 31 g = τ.1 31 g) (e33 : ∀ g k, g ≠ i → k < 4 → τ'.1 33 (g * 4 + k) = τ.1 33 (g * 4 + k) ∧ τ'.1 35 (g * 4 + k) = τ.1 35 (g * 4 + k))
    (hs : ∀ x, ¬ (196 + 96 * i + 87 ≤ x ∧ x < 196 + 96 * i + 96) → s' x = s x) (n1 : s' (196 + 96 * i + 87) = τ'.1 31 i) (n2 : ∀ k, k < gNs τ' i → s' (196 + 96 * i + (88 + 2 * k)) = τ'.1 33 (i * 4 + k) ∧ s' (196 + 96 * i + (88 + 2 * k + 1)) = τ'.1 35 (i * 4 + k)) : gMR τ' s' := by
  have h24 := hW.ng24
  have hH : ∀ k, 1 ≤ k → k < 36 → (k ≠ 31 ∧ k ≠ 33 ∧ k ≠ 35) → τ'.1 k = τ.1 k := fun k q0 q1 q2 => ho k q0 q1 q2.1 q2.2.1 q2.2.2
  refine hM.upd (hH 1 (by decide) (by decide) (by decide)) (hH 2 (by decide) (by decide) (by decide)) (hH 20 (by decide) (by decide) (by decide)) (hH 26 (by decide) (by decide) (by decide)) (hH 28 (by decide) (by decide) (by decide)) (fun x hx => hs x (by omega)) (fun g hg hG => ?_)
  by_cases hgi : g = i
  · subst hgi
    exact hG.new_stm hW (by omega) (hH 6 (by decide) (by decide) (by decide)) (hH 8 (by decide) (by decide) (by decide)) (hH 10 (by decide) (by decide) (by decide)) (hH 12 (by decide) (by decide) (by decide)) (hH 15 (by decide) (by decide) (by decide)) (hH 17 (by decide) (by decide) (by decide)) (hH 19 (by decide) (by decide) (by decide)) (hH 22 (by decide) (by decide) (by decide)) (hH 24 (by decide) (by decide) (by decide)) (hH 4 (by decide) (by decide) (by decide)) (fun x q1 q2 q3 => hs x (by omega)) n1 n2
  · exact hG.same hW (by omega) (fun x q1 q2 => hs x (by omega)) (congrFun (hH 4 (by decide) (by decide) (by decide)) _) (congrFun (hH 6 (by decide) (by decide) (by decide)) _) (fun _ _ => congrFun (hH 8 (by decide) (by decide) (by decide)) _) (fun _ _ => congrFun (hH 10 (by decide) (by decide) (by decide)) _) (fun _ _ => congrFun (hH 12 (by decide) (by decide) (by decide)) _) (fun _ _ => congrFun (hH 15 (by decide) (by decide) (by decide)) _) (fun _ _ => congrFun (hH 17 (by decide) (by decide) (by decide)) _) (fun _ _ => congrFun (hH 19 (by decide) (by decide) (by decide)) _) (congrFun (hH 22 (by decide) (by decide) (by decide)) _) (congrFun (hH 24 (by decide) (by decide) (by decide)) _) (e31 g hgi) (fun k hk => (e33 g k hgi hk).1) (fun k hk => (e33 g k hgi hk).2)
/-- whether a stem from f to t touches the k-th -/
def gTch (τ : gST) (i : Nat) (f t : Int32) (k : Nat) : Prop := f ≤ τ.1 35 (i * 4 + k) ∧ τ.1 33 (i * 4 + k) ≤ t
theorem gTk_0 {l r : Nat → Int32} {f t : Int32} {b : Nat} : ∀ (m i : Nat), gTk l r f t b i m = 0 ↔ ∀ k, i ≤ k → k < i + m → ¬ (f ≤ r (b + k) ∧ l (b + k) ≤ t)
  | 0, i => ⟨fun _ k h1 h2 => by omega, fun _ => rfl⟩
  | m + 1, i => by
    unfold gTk
    by_cases h : f ≤ r (b + i) ∧ l (b + i) ≤ t
    · rw [if_pos h]
      exact ⟨fun h9 => absurd h9 (by decide), fun h9 => absurd h (h9 i (Nat.le_refl _) (by omega))⟩
    · rw [if_neg h, gTk_0 m (i + 1)]
      constructor
      · intro h9 k h1 h2
        rcases Nat.eq_or_lt_of_le h1 with e | e
        · subst e; exact h
        · exact h9 k e (by omega)
      · intro h9 k h1 h2
        exact h9 k (by omega) (by omega)
def gStB (τ : gST) (i : Nat) (f t : Int32) (k : Nat) (b : Bool) : Bool := if f ≤ τ.1 35 (i * 4 + k) ∧ τ.1 33 (i * 4 + k) ≤ t then true else b
def gStQ (τ : gST) (i : Nat) (f : Int32) (k : Nat) (q : Nat) : Nat := if τ.1 33 (i * 4 + k) < f then q + 1 else q
theorem gStB_f {τ : gST} {i : Nat} {f t : Int32} : ∀ (m j : Nat) (b : Bool), gLoop (gStB τ i f t) j m b = false ↔ (b = false ∧ ∀ k, j ≤ k → k < j + m → ¬ gTch τ i f t k)
  | 0, j, b => ⟨fun h => ⟨h, fun k h1 h2 => by omega⟩, fun h => h.1⟩
  | m + 1, j, b => by
    show gLoop (gStB τ i f t) (j + 1) m (gStB τ i f t j b) = false ↔ _
    rw [gStB_f m (j + 1)]
    unfold gStB
    by_cases h : f ≤ τ.1 35 (i * 4 + j) ∧ τ.1 33 (i * 4 + j) ≤ t
    · rw [if_pos h]
      exact ⟨fun h9 => absurd h9.1 (by decide), fun h9 => absurd h (h9.2 j (Nat.le_refl _) (by omega))⟩
    · rw [if_neg h]
      constructor
      · rintro ⟨h1, h2⟩
        refine ⟨h1, fun k q1 q2 => ?_⟩
        rcases Nat.eq_or_lt_of_le q1 with e | e
        · subst e; exact h
        · exact h2 k e (by omega)
      · rintro ⟨h1, h2⟩
        exact ⟨h1, fun k q1 q2 => h2 k (by omega) (by omega)⟩
theorem gStQ_le {τ : gST} {i : Nat} {f : Int32} : ∀ (m j q : Nat), gLoop (gStQ τ i f) j m q ≤ q + m
  | 0, _, q => Nat.le_refl _
  | m + 1, j, q => by
    have h := gStQ_le (τ := τ) (i := i) (f := f) m (j + 1) (gStQ τ i f j q)
    have h2 : gStQ τ i f j q ≤ q + 1 := by unfold gStQ; split <;> omega
    show gLoop (gStQ τ i f) (j + 1) m (gStQ τ i f j q) ≤ _
    omega
theorem gStQ_eq {τ : gST} {i p : Nat} {f : Int32} : ∀ (m j q : Nat), (∀ k, j ≤ k → k < j + m → (τ.1 33 (i * 4 + k) < f ↔ k < p)) → j ≤ p → p ≤ j + m → gLoop (gStQ τ i f) j m q = q + (p - j)
  | 0, j, q, _, h1, h2 => by
    show q = _
    omega
  | m + 1, j, q, h, h1, h2 => by
    show gLoop (gStQ τ i f) (j + 1) m (gStQ τ i f j q) = _
    unfold gStQ
    by_cases hj : j < p
    · rw [if_pos ((h j (Nat.le_refl _) (by omega)).mpr hj)]
      have := gStQ_eq (τ := τ) (i := i) (p := p) (f := f) m (j + 1) (q + 1) (fun k q1 q2 => h k (by omega) (by omega)) (by omega) (by omega)
      unfold gStQ at this
      rw [this]
      omega
    · rw [if_neg (fun h9 => hj ((h j (Nat.le_refl _) (by omega)).mp h9))]
      have e : gLoop (gStQ τ i f) (j + 1) m q = q := gLoop_id _ _ _ (fun k q1 q2 b => by
        unfold gStQ
        rw [if_neg (fun h9 => by have := (h k (by omega) (by omega)).mp h9; omega)])
      unfold gStQ at e
      rw [e]
      omega
theorem gIp_spec {l : Nat → Int32} {b : Nat} {f : Int32} : ∀ (N : Nat), gIp l b f N ≤ N ∧ (0 < gIp l b f N → ¬ f < l (b + (gIp l b f N - 1))) ∧ ∀ k, gIp l b f N ≤ k → k < N → f < l (b + k)
  | 0 => ⟨Nat.le_refl _, fun h => by unfold gIp at h; omega, fun k h1 h2 => by omega⟩
  | N + 1 => by
    obtain ⟨h1, h2, h3⟩ := gIp_spec (l := l) (b := b) (f := f) N
    unfold gIp
    by_cases h : f < l (b + N)
    · rw [if_pos h]
      refine ⟨by omega, h2, fun k q1 q2 => ?_⟩
      rcases Nat.lt_or_ge k N with e | e
      · exact h3 k q1 e
      · have : k = N := by omega
        rw [this]; exact h
    · rw [if_neg h]
      exact ⟨Nat.le_refl _, fun _ => h, fun k q1 q2 => by omega⟩
/-- the stems' lefts grow -/
theorem gSW.lt {τ : gST} (h : gSW τ) {g : Nat} (hg : g < gNg τ) : ∀ (d k : Nat), k + d + 1 < gNs τ g → (τ.1 35 (g * 4 + k)).toInt < (τ.1 33 (g * 4 + (k + d + 1))).toInt
  | 0, k, hk => (h g hg).2 k hk
  | d + 1, k, hk => by
    have h1 := gSW.lt h hg d k (by omega)
    have h2 := (h g hg).1 (k + d + 1) (by omega)
    have h3 := (h g hg).2 (k + d + 1) (by omega)
    rw [show k + (d + 1) + 1 = k + d + 1 + 1 by omega]
    omega
theorem gStp {τ : gST} {i : Nat} {f t : Int32} (hC : gCI τ) (hi : i < gNg τ) (hft : f < t) (hno : ∀ k, k < gNs τ i → ¬ gTch τ i f t k) : gLoop (gStQ τ i f) 0 (gNs τ i) 0 = gIp (τ.1 33) (i * 4) f (gNs τ i) := by
  obtain ⟨h1, h2, h3⟩ := gIp_spec (l := τ.1 33) (b := i * 4) (f := f) (gNs τ i)
  rw [gStQ_eq (p := gIp (τ.1 33) (i * 4) f (gNs τ i)) _ _ _ (fun k _ hk => ?_) (Nat.zero_le _) (by omega)]
  · omega
  · have hft2 := Int32.lt_iff_toInt_lt.mp hft
    constructor
    · intro h4
      rcases Nat.lt_or_ge k (gIp (τ.1 33) (i * 4) f (gNs τ i)) with e | e
      · exact e
      · have h5 := Int32.lt_iff_toInt_lt.mp (h3 k e (by omega))
        have h6 := Int32.lt_iff_toInt_lt.mp h4
        omega
    · intro h4
      have hp : 0 < gIp (τ.1 33) (i * 4) f (gNs τ i) := by omega
      have h5 := Int32.le_iff_toInt_le.mp (Int32.not_lt.mp (h2 hp))
      have h6 := (hC.sw i hi).1 k (by omega)
      have h7 : (τ.1 33 (i * 4 + k)).toInt ≤ (τ.1 33 (i * 4 + (gIp (τ.1 33) (i * 4) f (gNs τ i) - 1))).toInt := by
        rcases Nat.eq_or_lt_of_le (show k ≤ gIp (τ.1 33) (i * 4) f (gNs τ i) - 1 by omega) with e | e
        · rw [← e]; exact Int.le_refl _
        · have h8 := hC.sw.lt hi (gIp (τ.1 33) (i * 4) f (gNs τ i) - 1 - k - 1) k (by omega)
          rw [show k + (gIp (τ.1 33) (i * 4) f (gNs τ i) - 1 - k - 1) + 1 = gIp (τ.1 33) (i * 4) f (gNs τ i) - 1 by omega] at h8
          omega
      have h8 : (τ.1 33 (i * 4 + k)).toInt ≤ f.toInt := by omega
      rcases Int.lt_or_eq_of_le h8 with e | e
      · exact Int32.lt_iff_toInt_lt.mpr e
      · exfalso
        refine hno k (by omega) ⟨Int32.le_iff_toInt_le.mpr (by omega), Int32.le_iff_toInt_le.mpr (by omega)⟩
theorem nI_subN {a b : Nat} (h : b ≤ a) (ha : a < 2 ^ 31) : nI a - nI b = nI (a - b) := by
  apply Int32.toInt_inj.mp
  rw [Int32.toInt_sub, nI_toInt ha, nI_toInt (by omega), nI_toInt (by omega)]
  rw [show (a : Int) - (b : Int) = ((a - b : Nat) : Int) by omega]
  exact Int.bmod_eq_of_le_mul_two (by omega) (by omega)

theorem mt_addStem {ρ : gST} {s : Nat → Int32} {i N p : Nat} {f t : Int32} (hC : gCI ρ) (hM : gMR ρ s) (hi : i < gNg ρ) (hN : N = gNs ρ i) (h4 : N < 4) (hp : p = gIp (ρ.1 33) (i * 4) f N) (hf : -200 ≤ f.toInt ∧ f.toInt ≤ 1200) (ht : -200 ≤ t.toInt ∧ t.toInt ≤ 1200) (hft : f < t) (hno : ∀ k, k < N → ¬ gTch ρ i f t k) :
    gCI (gInsW ρ i N f t) ∧ gMR (gInsW ρ i N f t) (upd (upd (upd (va_cpy s s (196 + 96 * i + (88 + 2 * p)) (196 + 96 * i + (88 + 2 * p + 2)) (2 * (N - p))) (196 + 96 * i + (88 + 2 * p)) f) (196 + 96 * i + (88 + 2 * p + 1)) t) (196 + 96 * i + 87) (nI (N + 1))) := by
  have hW := hC.dw
  have h24 := hW.ng24
  obtain ⟨s1, s2, s3⟩ := gIp_spec (l := ρ.1 33) (b := i * 4) (f := f) N
  rw [← hp] at s1 s2 s3
  obtain ⟨τ', hτ⟩ : ∃ τ', τ' = gInsW ρ i N f t := ⟨_, rfl⟩
  have ho : ∀ k, k ≠ 31 → k ≠ 33 → k ≠ 35 → τ'.1 k = ρ.1 k := fun k q1 q2 q3 => by
    rw [hτ]
    unfold gInsW gS2f
    rw [gPut_ne _ _ _ q1, gPut_ne _ _ _ q3, gPut_ne _ _ _ q2]
    exact (gSA_ne _ _ q3).trans (gSA_ne _ _ q2)
  have e31 : ∀ a, τ'.1 31 a = if a = i then nI (N + 1) else ρ.1 31 a := fun a => by
    rw [hτ]
    unfold gInsW
    rw [gPut_s, uN, gPut_ne _ _ _ (by decide), gPut_ne _ _ _ (by decide)]
    rfl
  have e33 : ∀ a, τ'.1 33 a = if a = i * 4 + p then f else gSf (ρ.1 33) (i * 4) p N a := fun a => by
    rw [hτ]
    unfold gInsW
    rw [gPut_ne _ _ _ (by decide), gPut_ne _ _ _ (by decide), gPut_s, uN, ← hp]
    rfl
  have e35 : ∀ a, τ'.1 35 a = if a = i * 4 + p then t else gSf (ρ.1 35) (i * 4) p N a := fun a => by
    rw [hτ]
    unfold gInsW
    rw [gPut_ne _ _ _ (by decide), gPut_s, uN, gPut_ne _ _ _ (by decide), ← hp]
    rfl
  rw [← hτ]
  have eng : gNg τ' = gNg ρ := by unfold gNg; rw [ho 2 (by decide) (by decide) (by decide)]
  have ens : ∀ g, gNs τ' g = if g = i then N + 1 else gNs ρ g := fun g => by
    unfold gNs
    rw [e31]
    split
    · exact nA_nI (by omega)
    · rfl
  have hoth : ∀ g k, g ≠ i → k < 4 → τ'.1 33 (g * 4 + k) = ρ.1 33 (g * 4 + k) ∧ τ'.1 35 (g * 4 + k) = ρ.1 35 (g * 4 + k) := fun g k q1 q2 => by
    rw [e33, e35, if_neg (by omega), if_neg (by omega)]
    unfold gSf
    rw [if_neg (by omega), if_neg (by omega)]
    exact ⟨rfl, rfl⟩
  have hlt : ∀ k, k < p → τ'.1 33 (i * 4 + k) = ρ.1 33 (i * 4 + k) ∧ τ'.1 35 (i * 4 + k) = ρ.1 35 (i * 4 + k) := fun k q => by
    rw [e33, e35, if_neg (by omega), if_neg (by omega)]
    unfold gSf
    rw [if_neg (by omega), if_neg (by omega)]
    exact ⟨rfl, rfl⟩
  have heq : τ'.1 33 (i * 4 + p) = f ∧ τ'.1 35 (i * 4 + p) = t := by
    rw [e33, e35, if_pos rfl, if_pos rfl]
    exact ⟨rfl, rfl⟩
  have hgt : ∀ k, p ≤ k → k < N → τ'.1 33 (i * 4 + (k + 1)) = ρ.1 33 (i * 4 + k) ∧ τ'.1 35 (i * 4 + (k + 1)) = ρ.1 35 (i * 4 + k) := fun k q q2 => by
    rw [e33, e35, if_neg (by omega), if_neg (by omega)]
    unfold gSf
    rw [if_pos (by omega), if_pos (by omega), show i * 4 + (k + 1) - 1 = i * 4 + k by omega]
    exact ⟨rfl, rfl⟩
  have hft2 := Int32.lt_iff_toInt_lt.mp hft
  have hsw := hC.sw i hi
  rw [← hN] at hsw
  refine ⟨hC.stm (fun k _ _ a1 a2 a3 => ho k a1 a2 a3) ?_ ?_ ?_, hM.stm hW hi (fun k _ _ a1 a2 a3 => ho k a1 a2 a3) (fun g hg => by rw [e31, if_neg hg]) hoth (fun x hx => ?_) ?_ ?_⟩
  · intro a ha
    rw [e31]
    split
    · rw [nI_toInt (by omega)]; omega
    · exact hW.2.2.2.2.2.2 a ha
  · intro g hg
    rw [eng] at hg
    rw [ens]
    by_cases hgi : g = i
    · subst hgi
      rw [if_pos rfl]
      refine ⟨fun k hk => ?_, fun k hk => ?_⟩
      · rcases Nat.lt_trichotomy k p with q | q | q
        · rw [(hlt k q).1, (hlt k q).2]; exact hsw.1 k (by omega)
        · subst q
          rw [heq.1, heq.2]; omega
        · obtain ⟨k, rfl⟩ : ∃ j, k = j + 1 := ⟨k - 1, by omega⟩
          rw [(hgt k (by omega) (by omega)).1, (hgt k (by omega) (by omega)).2]; exact hsw.1 k (by omega)
      · rcases Nat.lt_trichotomy (k + 1) p with q | q | q
        · rw [(hlt k (by omega)).2, (hlt (k + 1) q).1]; exact hsw.2 k (by omega)
        · have h9 := Int32.le_iff_toInt_le.mp (Int32.not_lt.mp (s2 (by omega)))
          rw [show p - 1 = k by omega] at h9
          have h8 := hsw.1 k (by omega)
          have h7 : ¬ f.toInt ≤ (ρ.1 35 (g * 4 + k)).toInt := fun h6 => hno k (by omega) ⟨Int32.le_iff_toInt_le.mpr h6, Int32.le_iff_toInt_le.mpr (by omega)⟩
          rw [(hlt k (by omega)).2, q, heq.1]
          omega
        · rcases Nat.eq_or_lt_of_le (show p ≤ k by omega) with q2 | q2
          · subst q2
            have h9 := Int32.lt_iff_toInt_lt.mp (s3 p (Nat.le_refl _) (by omega))
            have h7 : ¬ (ρ.1 33 (g * 4 + p)).toInt ≤ t.toInt := fun h6 => hno p (by omega) ⟨Int32.le_iff_toInt_le.mpr (by have := hsw.1 p (by omega); omega), Int32.le_iff_toInt_le.mpr h6⟩
            rw [heq.2, (hgt p (Nat.le_refl _) (by omega)).1]
            omega
          · obtain ⟨k, rfl⟩ : ∃ j, k = j + 1 := ⟨k - 1, by omega⟩
            rw [(hgt k (by omega) (by omega)).2, (hgt (k + 1) (by omega) (by omega)).1]
            exact hsw.2 k (by omega)
    · rw [if_neg hgi]
      have h4g := hW.ns4 (g := g) (by omega)
      refine ⟨fun k hk => ?_, fun k hk => ?_⟩
      · rw [(hoth g k hgi (by omega)).1, (hoth g k hgi (by omega)).2]; exact (hC.sw g hg).1 k hk
      · rw [(hoth g k hgi (by omega)).2, (hoth g (k + 1) hgi (by omega)).1]; exact (hC.sw g hg).2 k hk
  · intro g hg hg2
    rw [e31, if_neg (by omega)]
    exact (hC.gw.2 g hg hg2).2.1
  · rw [uN, if_neg (by omega), uN, if_neg (by omega), uN, if_neg (by omega)]
    unfold va_cpy
    rw [if_neg (by omega)]
  · rw [uN, if_pos rfl, e31, if_pos rfl]
  · rw [ens, if_pos rfl]
    intro k hk
    rcases Nat.lt_trichotomy k p with q | q | q
    · rw [(hlt k q).1, (hlt k q).2]
      refine ⟨?_, ?_⟩
      · rw [uN, if_neg (by omega), uN, if_neg (by omega), uN, if_neg (by omega)]
        unfold va_cpy
        rw [if_neg (by omega)]
        exact hM.sl hi (by omega) rfl
      · rw [uN, if_neg (by omega), uN, if_neg (by omega), uN, if_neg (by omega)]
        unfold va_cpy
        rw [if_neg (by omega)]
        exact hM.sr hi (by omega) rfl
    · subst q
      rw [heq.1, heq.2]
      refine ⟨?_, ?_⟩
      · rw [uN, if_neg (by omega), uN, if_neg (by omega), uN, if_pos rfl]
      · rw [uN, if_neg (by omega), uN, if_pos rfl]
    · obtain ⟨k, rfl⟩ : ∃ j, k = j + 1 := ⟨k - 1, by omega⟩
      rw [(hgt k (by omega) (by omega)).1, (hgt k (by omega) (by omega)).2]
      refine ⟨?_, ?_⟩
      · rw [uN, if_neg (by omega), uN, if_neg (by omega), uN, if_neg (by omega)]
        unfold va_cpy
        rw [if_pos (by omega)]
        exact hM.sl hi (k := k) (by omega) (by omega)
      · rw [uN, if_neg (by omega), uN, if_neg (by omega), uN, if_neg (by omega)]
        unfold va_cpy
        rw [if_pos (by omega)]
        exact hM.sr hi (k := k) (by omega) (by omega)

theorem mt_removeStem {ρ : gST} {s : Nat → Int32} {i n k : Nat} (hC : gCI ρ) (hM : gMR ρ s) (hi : i < gNg ρ) (hN : n + 1 = gNs ρ i) (hk : k ≤ n) : gCI (gPut (gS2d ρ (i * 4) k (n + 1)) 31 i (nI n)) ∧ gMR (gPut (gS2d ρ (i * 4) k (n + 1)) 31 i (nI n)) (va_cpy (upd s (196 + 96 * i + 87) (nI n)) (upd s (196 + 96 * i + 87) (nI n)) (196 + 96 * i + (88 + 2 * k + 2)) (196 + 96 * i + (88 + 2 * k)) (2 * (n - k))) := by
  have hW := hC.dw
  have h24 := hW.ng24
  have h4 := hW.ns4 (g := i) (by omega)
  obtain ⟨τ', hτ⟩ : ∃ τ', τ' = (gPut (gS2d ρ (i * 4) k (n + 1)) 31 i (nI n)) := ⟨_, rfl⟩
  have ho : ∀ k, k ≠ 31 → k ≠ 33 → k ≠ 35 → τ'.1 k = ρ.1 k := fun k q1 q2 q3 => by
    rw [hτ]
    unfold gS2d
    rw [gPut_ne _ _ _ q1]
    exact (gSA_ne _ _ q3).trans (gSA_ne _ _ q2)
  have e31 : ∀ a, τ'.1 31 a = if a = i then nI n else ρ.1 31 a := fun a => by
    rw [hτ, gPut_s, uN]
    rfl
  have e33 : ∀ a, τ'.1 33 a = gDl (ρ.1 33) (i * 4) k (n + 1) a := fun a => by
    rw [hτ, gPut_ne _ _ _ (by decide)]
    rfl
  have e35 : ∀ a, τ'.1 35 a = gDl (ρ.1 35) (i * 4) k (n + 1) a := fun a => by
    rw [hτ, gPut_ne _ _ _ (by decide)]
    rfl
  rw [← hτ]
  have eng : gNg τ' = gNg ρ := by unfold gNg; rw [ho 2 (by decide) (by decide) (by decide)]
  have ens : ∀ g, gNs τ' g = if g = i then n else gNs ρ g := fun g => by
    unfold gNs
    rw [e31]
    split
    · exact nA_nI (by omega)
    · rfl
  have hoth : ∀ g k, g ≠ i → k < 4 → τ'.1 33 (g * 4 + k) = ρ.1 33 (g * 4 + k) ∧ τ'.1 35 (g * 4 + k) = ρ.1 35 (g * 4 + k) := fun g k q1 q2 => by
    rw [e33, e35]
    unfold gDl
    rw [if_neg (by omega), if_neg (by omega)]
    exact ⟨rfl, rfl⟩
  have hlt : ∀ j, j < k → τ'.1 33 (i * 4 + j) = ρ.1 33 (i * 4 + j) ∧ τ'.1 35 (i * 4 + j) = ρ.1 35 (i * 4 + j) := fun j q => by
    rw [e33, e35]
    unfold gDl
    rw [if_neg (by omega), if_neg (by omega)]
    exact ⟨rfl, rfl⟩
  have hge : ∀ j, k ≤ j → j < n → τ'.1 33 (i * 4 + j) = ρ.1 33 (i * 4 + (j + 1)) ∧ τ'.1 35 (i * 4 + j) = ρ.1 35 (i * 4 + (j + 1)) := fun j q q2 => by
    rw [e33, e35]
    unfold gDl
    rw [if_pos (by omega), if_pos (by omega)]
    exact ⟨rfl, rfl⟩
  have hsw := hC.sw i hi
  rw [← hN] at hsw
  refine ⟨hC.stm (fun k _ _ a1 a2 a3 => ho k a1 a2 a3) ?_ ?_ ?_, hM.stm hW hi (fun k _ _ a1 a2 a3 => ho k a1 a2 a3) (fun g hg => by rw [e31, if_neg hg]) hoth (fun x hx => ?_) ?_ ?_⟩
  · intro a ha
    rw [e31]
    split
    · rw [nI_toInt (by omega)]; omega
    · exact hW.2.2.2.2.2.2 a ha
  · intro g hg
    rw [eng] at hg
    rw [ens]
    by_cases hgi : g = i
    · subst hgi
      rw [if_pos rfl]
      refine ⟨fun j hj => ?_, fun j hj => ?_⟩
      · rcases Nat.lt_or_ge j k with q | q
        · rw [(hlt j q).1, (hlt j q).2]; exact hsw.1 j (by omega)
        · rw [(hge j q hj).1, (hge j q hj).2]; exact hsw.1 (j + 1) (by omega)
      · rcases Nat.lt_or_ge (j + 1) k with q | q
        · rw [(hlt j (by omega)).2, (hlt (j + 1) q).1]; exact hsw.2 j (by omega)
        · rcases Nat.lt_or_ge j k with q2 | q2
          · have h1 := hsw.2 j (by omega)
            have h2 := hsw.1 (j + 1) (by omega)
            have h3 := hsw.2 (j + 1) (by omega)
            rw [(hlt j q2).2, (hge (j + 1) q hj).1]
            omega
          · rw [(hge j q2 (by omega)).2, (hge (j + 1) q hj).1]; exact hsw.2 (j + 1) (by omega)
    · rw [if_neg hgi]
      have h4g := hW.ns4 (g := g) (by omega)
      refine ⟨fun k hk => ?_, fun k hk => ?_⟩
      · rw [(hoth g k hgi (by omega)).1, (hoth g k hgi (by omega)).2]; exact (hC.sw g hg).1 k hk
      · rw [(hoth g k hgi (by omega)).2, (hoth g (k + 1) hgi (by omega)).1]; exact (hC.sw g hg).2 k hk
  · intro g hg hg2
    rw [e31, if_neg (by omega)]
    exact (hC.gw.2 g hg hg2).2.1
  · unfold va_cpy
    rw [if_neg (by omega), uN, if_neg (by omega)]
  · unfold va_cpy
    rw [if_neg (by omega), uN, if_pos rfl, e31, if_pos rfl]
  · rw [ens, if_pos rfl]
    intro j hj
    unfold va_cpy
    rcases Nat.lt_or_ge j k with q | q
    · rw [(hlt j q).1, (hlt j q).2, if_neg (by omega), if_neg (by omega), uN, if_neg (by omega), uN, if_neg (by omega)]
      exact ⟨hM.sl hi (by omega) rfl, hM.sr hi (by omega) rfl⟩
    · rw [(hge j q hj).1, (hge j q hj).2, if_pos (by omega), if_pos (by omega), uN, if_neg (by omega), uN, if_neg (by omega)]
      exact ⟨hM.sl hi (k := j + 1) (by omega) (by omega), hM.sr hi (k := j + 1) (by omega) (by omega)⟩
