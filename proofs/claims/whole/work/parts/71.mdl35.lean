/-- the lines as numbers: how many, how wide the last, the least refused -/
def pLS (τ : gST) (me : Int32) (w : Nat) (a : Nat × Int32 × Int32) : Nat × Int32 × Int32 :=
  if a.1 = 0 then (1, pWd τ w, a.2.2)
  else if a.2.1 + mMo τ w ≤ me then (a.1, a.2.1 + mMo τ w, a.2.2)
  else (a.1 + 1, pWd τ w, if a.2.1 + mMo τ w < a.2.2 then a.2.1 + mMo τ w else a.2.2)
def pL (τ : gST) (me : Int32) : Nat × Int32 × Int32 := gLoop (pLS τ me) 0 (pW τ (gPl_ τ)).1 (0, 0, 100001)
/-- the words f to g in one line -/
def pRS (τ : gST) (f g : Nat) : Int32 := gLoop (fun w x => x + mMo τ w) (f + 1) (g - f) (pWd τ f)
theorem pRS_s (τ : gST) {f g : Nat} (h : f ≤ g) : pRS τ f (g + 1) = pRS τ f g + mMo τ (g + 1) := by
  unfold pRS
  rw [show g + 1 - f = (g - f) + 1 by omega, gLoop_add, show f + 1 + (g - f) = g + 1 by omega]
  rfl
def pCR (τ : gST) (w : Nat) (a : gST) (s : Nat × Int32 × Int32) : Prop := a.1 363 7 = τ.1 1 4 + τ.1 1 5 + τ.1 1 4 ∧ a.1 363 8 = nI s.1 ∧ s.1 ≤ w ∧ (∀ k, s.1 = k + 1 → a.1 371 k = s.2.1) ∧ a.1 363 9 = s.2.2
theorem pCR_s {τ a : gST} {me : Int32} {w : Nat} {s : Nat × Int32 × Int32} (hw : w < 60) (h : pCR τ w a s) : pCR τ (w + 1) (cBS τ me w a) (pLS τ me w s) := by
  obtain ⟨h0, h1, h2, h3, h4⟩ := h
  obtain ⟨n, l, R⟩ := s
  dsimp only at h1 h2 h3 h4
  have hna : nA (a.1 363 8) = n := by rw [h1]; exact nA_nI (by omega)
  unfold cBS gPw pLS
  rw [hna]
  cases n with
  | zero =>
    rw [if_pos rfl]
    refine ⟨?_, ?_, by show 1 ≤ _; omega, fun k hk => ?_, ?_⟩
    · simp [gNl, gPut_at]; exact h0
    · simp [gNl, gPut_at]
    · have : k = 0 := by dsimp only at hk; omega
      subst this
      simp [gNl, gPut_at]
    · simp [gNl, gPut_at]; exact h4
  | succ k =>
    have h3 := h3 k rfl
    dsimp only
    rw [if_neg (show ¬ k + 1 = 0 by omega), h0, h3, mMo_eq, h4]
    by_cases hc : l + (τ.1 1 4 + τ.1 1 5 + τ.1 1 4) + pWd τ w ≤ me
    · rw [if_pos hc, if_pos hc]
      refine ⟨?_, ?_, by show k + 1 ≤ _; omega, fun j hj => ?_, ?_⟩
      · simp [gPut_at]; exact h0
      · simp [gPut_at]; exact h1
      · have : j = k := by dsimp only at hj; omega
        subst this
        simp [gPut_at]
      · simp [gPut_at]; exact h4
    · rw [if_neg hc, if_neg hc]
      refine ⟨?_, ?_, by show k + 1 + 1 ≤ _; omega, fun j hj => ?_, ?_⟩
      · simp [gNl, gPut_at]; exact h0
      · simp [gNl, gPut_at]
      · have : j = k + 1 := by dsimp only at hj; omega
        subst this
        simp [gNl, gPut_at]
      · simp [gNl, gPut_at]
theorem pCR_l {τ : gST} {me : Int32} : ∀ (m i : Nat) (a : gST) (s : Nat × Int32 × Int32), i + m ≤ 60 → pCR τ i a s → pCR τ (i + m) (gLoop (cBS τ me) i m a) (gLoop (pLS τ me) i m s)
  | 0, _, _, _, _, h => h
  | m + 1, i, a, s, h1, h => by
    rw [show i + (m + 1) = (i + 1) + m by omega]
    exact pCR_l m (i + 1) _ _ (by omega) (pCR_s (by omega) h)
theorem pL_c {τ ρ : gST} (h : pSt τ ρ) (hn : gPl_ τ ≤ 60) (me : Int32) : (gBr ρ me).1 363 8 = nI (pL τ me).1 ∧ (gBr ρ me).1 363 9 = (pL τ me).2.2 ∧ (pL τ me).1 ≤ 60 := by
  have hk := (pW_I τ (gPl_ τ)).1
  have hS := h.la (gBr0_A ρ)
  have := pCR_l (τ := τ) (me := me) (pW τ (gPl_ τ)).1 0 (gBr0 ρ) (0, 0, 100001) (by omega) ⟨hS.2.2.1, by
    unfold gBr0; rw [gPut_at, if_neg (by decide), gPut_at, if_pos ⟨rfl, rfl⟩]; rfl, Nat.le_refl 0, fun k hk => absurd hk (by dsimp only; omega), by
    unfold gBr0; rw [gPut_at, if_pos ⟨rfl, rfl⟩]⟩
  rw [gBr_eq h]
  exact ⟨this.2.1, this.2.2.2.2, by have h9 := this.2.2.1; unfold pL; omega⟩
theorem pL_m {τ : gST} (hn : gPl_ τ ≤ 60) (me : Int32) (b : gST) : (mBr τ me b).1 376 17 = nI (pL τ me).1 := by
  obtain ⟨-, n, -, -, h2, h3, -⟩ := pLR_f (pSt_set τ) hn me b
  rw [h3, ← h2]
  exact (pL_c (pSt_set τ) hn me).1
theorem i32_lt {a b : Int32} : a < b ↔ a.toInt < b.toInt := Int32.lt_iff_toInt_lt
theorem i32_le {a b : Int32} : a ≤ b ↔ a.toInt ≤ b.toInt := Int32.le_iff_toInt_le
/-- refused is wider than the measure -/
theorem pL_gt {τ : gST} {me : Int32} : ∀ (m i : Nat) (s : Nat × Int32 × Int32), me < s.2.2 → me < (gLoop (pLS τ me) i m s).2.2
  | 0, _, _, h => h
  | m + 1, i, s, h => by
    refine pL_gt m (i + 1) _ ?_
    unfold pLS
    split
    · exact h
    · split
      · exact h
      · rename_i h1
        dsimp only
        split
        · exact Int32.not_le.mp h1
        · exact h
theorem pL_mono {τ : gST} {me : Int32} : ∀ (m i : Nat) (s : Nat × Int32 × Int32), (gLoop (pLS τ me) i m s).2.2 ≤ s.2.2
  | 0, _, _ => Int32.le_refl _
  | m + 1, i, s => by
    refine Int32.le_trans (pL_mono m (i + 1) _) ?_
    unfold pLS
    split
    · exact Int32.le_refl _
    · split
      · exact Int32.le_refl _
      · dsimp only
        split
        · rename_i h; exact Int32.le_of_lt h
        · exact Int32.le_refl _
theorem pL_same1 {τ : gST} {me me' R : Int32} {i : Nat} {s : Nat × Int32 × Int32} (h1 : me ≤ me') (hR : R ≤ (pLS τ me i s).2.2) (h : me' < R) : pLS τ me' i s = pLS τ me i s := by
  have h3 := Int32.lt_of_lt_of_le h hR
  clear h hR
  unfold pLS at h3 ⊢
  by_cases c0 : s.1 = 0
  · rw [if_pos c0, if_pos c0]
  · rw [if_neg c0] at h3
    rw [if_neg c0, if_neg c0]
    by_cases c1 : s.2.1 + mMo τ i ≤ me
    · rw [if_pos c1, if_pos (Int32.le_trans c1 h1)]
    · rw [if_neg c1] at h3
      rw [if_neg c1]
      refine if_neg (fun h9 => ?_)
      dsimp only at h3
      split at h3
      · exact absurd h9 (Int32.not_le.mpr h3)
      · rename_i h8
        exact absurd h9 (Int32.not_le.mpr (Int32.lt_of_lt_of_le h3 (Int32.not_lt.mp h8)))
theorem gLoop_f {α : Type} (s : Nat → α → α) (i m : Nat) (a : α) : gLoop s i (m + 1) a = gLoop s (i + 1) m (s i a) := rfl
theorem pL_same {τ : gST} {me me' : Int32} (h1 : me ≤ me') : ∀ (m i : Nat) (s : Nat × Int32 × Int32), me' < (gLoop (pLS τ me) i m s).2.2 → gLoop (pLS τ me') i m s = gLoop (pLS τ me) i m s := by
  intro m
  induction m with
  | zero => intro i s _; rw [gLoop_zero, gLoop_zero]
  | succ m ih =>
    intro i s h
    rw [gLoop_f] at h
    rw [gLoop_f, gLoop_f, pL_same1 h1 (pL_mono m (i + 1) _) h]
    exact ih (i + 1) _ h
/-- what is refused is a line of some words -/
def pLV (τ : gST) (W w : Nat) (s : Nat × Int32 × Int32) : Prop := (0 < w → 0 < s.1 ∧ ∃ f, f ≤ w - 1 ∧ s.2.1 = pRS τ f (w - 1)) ∧ (w = 0 → s.1 = 0) ∧ (s.2.2 = 100001 ∨ ∃ f g, f < g ∧ g < W ∧ s.2.2 = pRS τ f g)
theorem pLV_s {τ : gST} {me : Int32} {W w : Nat} {s : Nat × Int32 × Int32} (hw : w < W) (h : pLV τ W w s) : pLV τ W (w + 1) (pLS τ me w s) := by
  obtain ⟨h1, h2, h3⟩ := h
  have e0 : pWd τ w = pRS τ w w := by unfold pRS; rw [Nat.sub_self]; rfl
  unfold pLS
  by_cases c0 : w = 0
  · rw [if_pos (h2 c0)]
    exact ⟨fun _ => ⟨Nat.zero_lt_one, w, by omega, e0⟩, fun h9 => absurd h9 (by omega), h3⟩
  · obtain ⟨q1, f, q2, q3⟩ := h1 (by omega)
    have e1 : s.2.1 + mMo τ w = pRS τ f w := by
      have := pRS_s τ (f := f) (g := w - 1) q2
      rw [show w - 1 + 1 = w by omega] at this
      rw [q3, this]
    rw [if_neg (by omega), e1]
    split
    · exact ⟨fun _ => ⟨q1, f, by omega, rfl⟩, fun h9 => absurd h9 (by omega), h3⟩
    · refine ⟨fun _ => ⟨by show 0 < s.1 + 1; omega, w, by omega, e0⟩, fun h9 => absurd h9 (by omega), ?_⟩
      dsimp only
      split
      · exact Or.inr ⟨f, w, by omega, hw, rfl⟩
      · exact h3
theorem pLV_l {τ : gST} {me : Int32} {W : Nat} : ∀ (m i : Nat) (s : Nat × Int32 × Int32), i + m ≤ W → pLV τ W i s → pLV τ W (i + m) (gLoop (pLS τ me) i m s)
  | 0, _, _, _, h => h
  | m + 1, i, s, h1, h => by
    rw [show i + (m + 1) = (i + 1) + m by omega]
    exact pLV_l m (i + 1) _ (by omega) (pLV_s (by omega) h)
theorem pL_v (τ : gST) (me : Int32) : (pL τ me).2.2 = 100001 ∨ ∃ f g, f < g ∧ g < (pW τ (gPl_ τ)).1 ∧ (pL τ me).2.2 = pRS τ f g := by
  have := pLV_l (τ := τ) (me := me) (pW τ (gPl_ τ)).1 0 (0, 0, 100001) (Nat.le_of_eq (Nat.zero_add _)) ⟨fun h9 => absurd h9 (by omega), fun _ => rfl, Or.inl rfl⟩
  exact this.2.2
def pOk (τ : gST) (nn m : Int32) : Prop := nI (pL τ m).1 ≤ nn
/-- the class's measures tried -/
def pSq (τ : gST) : Nat → Int32
  | 0 => 1
  | k + 1 => (pL τ (pSq τ k)).2.2
theorem pSq_E {τ : gST} {nn : Int32} : ∀ k, (∀ j, j < k → pSq τ j ≤ 100000 ∧ ¬ pOk τ nn (pSq τ j)) → 1 ≤ (pSq τ k).toInt ∧ (∀ m : Int32, 1 ≤ m.toInt → m < pSq τ k → ¬ pOk τ nn m) ∧ ∀ j, j < k → pSq τ j < pSq τ k
  | 0, _ => ⟨by show 1 ≤ ((1 : Int32)).toInt; decide, fun m h1 h2 => by
      have := i32_lt.mp h2
      rw [show (pSq τ 0).toInt = 1 from rfl] at this
      omega, fun j hj => absurd hj (Nat.not_lt_zero _)⟩
  | k + 1, h => by
    obtain ⟨e1, e2, e3⟩ := pSq_E k (fun j hj => h j (by omega))
    obtain ⟨h1, h2⟩ := h k (by omega)
    have hgt : pSq τ k < pSq τ (k + 1) := pL_gt _ _ _ (i32_lt.mpr (by have := i32_le.mp h1; rw [show ((100000 : Int32)).toInt = 100000 from rfl] at this; show (pSq τ k).toInt < ((100001 : Int32)).toInt; rw [show ((100001 : Int32)).toInt = 100001 from rfl]; omega))
    have hgi := i32_lt.mp hgt
    refine ⟨by omega, fun m q1 q2 => ?_, fun j hj => ?_⟩
    · by_cases c : m < pSq τ k
      · exact e2 m q1 c
      · have : pL τ m = pL τ (pSq τ k) := pL_same (Int32.not_lt.mp c) _ _ _ q2
        unfold pOk
        rw [this]
        exact h2
    · by_cases c : j = k
      · rw [c]; exact hgt
      · exact Int32.lt_trans (e3 j (by omega)) hgt
