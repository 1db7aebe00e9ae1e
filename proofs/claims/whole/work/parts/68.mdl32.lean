theorem gPut_self (σ : gST) (a i : Nat) : gPut σ a i (σ.1 a i) = σ := by
  refine Prod.ext (funext (fun b => funext (fun j => ?_))) rfl
  rw [gPut_at]
  by_cases h : b = a ∧ j = i
  · rw [if_pos h, h.1, h.2]
  · rw [if_neg h]
def mMo (τ : gST) (w : Nat) : Int32 := τ.1 1 5 + 2 * τ.1 1 4 + pWd τ w
theorem gp_eq (l s t w : Int32) : l + (s + 2 * t + w) = l + (t + s + t) + w := by
  rw [show (2 : Int32) = 1 + 1 from rfl, Int32.add_mul, Int32.one_mul, ← Int32.add_assoc, ← Int32.add_assoc, ← Int32.add_assoc, ← Int32.add_assoc, ← Int32.add_assoc, Int32.add_assoc l s t, Int32.add_comm s t, ← Int32.add_assoc]
theorem mMo_eq (τ : gST) (w : Nat) (l : Int32) : l + mMo τ w = l + (τ.1 1 4 + τ.1 1 5 + τ.1 1 4) + pWd τ w := gp_eq l _ _ _
/-- the model's word w onto the lines -/
def mBS (τ : gST) (me : Int32) (w : Nat) (s : gST) : gST := if 0 < w ∧ s.1 387 (nA (s.1 376 17) - 1) + mMo τ w ≤ me then
    gPut (gPut s 386 (nA (s.1 376 17) - 1) (s.1 386 (nA (s.1 376 17) - 1) + 1)) 387 (nA (s.1 376 17) - 1) (s.1 387 (nA (s.1 376 17) - 1) + mMo τ w)
  else gPut (gPut (gPut (gPut s 385 (nA (s.1 376 17)) (nI w)) 386 (nA (s.1 376 17)) 1) 387 (nA (s.1 376 17)) (pWd τ w)) 376 17 (nI (nA (s.1 376 17) + 1))
def mBI (b : gST) (w : Nat) (a : gST) : Prop := (∀ k, k ≠ 376 → k ≠ 385 → k ≠ 386 → k ≠ 387 → a.1 k = b.1 k) ∧ (∀ j, j ≠ 17 → a.1 376 j = b.1 376 j) ∧ a.2 = b.2 ∧ ∃ n, n ≤ w ∧ (0 < w → 1 ≤ n) ∧ a.1 376 17 = nI n
theorem mBS_y {τ s : gST} {me : Int32} {w k : Nat} (hk : k < 60) (h17 : s.1 376 17 = nI (k + 1)) (h0 : 0 < w) (h : s.1 387 k + mMo τ w ≤ me) : mBS τ me w s = gPut (gPut s 386 k (s.1 386 k + 1)) 387 k (s.1 387 k + mMo τ w) := by
  have e : nA (s.1 376 17) = k + 1 := by rw [h17]; exact nA_nI (by omega)
  unfold mBS
  rw [e, Nat.add_sub_cancel]
  exact if_pos ⟨h0, h⟩
theorem mBS_n {τ s : gST} {me : Int32} {w n : Nat} (hn : n ≤ 60) (h17 : s.1 376 17 = nI n) (h : ¬ (0 < w ∧ s.1 387 (n - 1) + mMo τ w ≤ me)) : mBS τ me w s = gPut (gPut (gPut (gPut s 385 n (nI w)) 386 n 1) 387 n (pWd τ w)) 376 17 (nI (n + 1)) := by
  have e : nA (s.1 376 17) = n := by rw [h17]; exact nA_nI (by omega)
  unfold mBS
  rw [e]
  exact if_neg h
theorem mBI_s {τ b s : gST} {me : Int32} {w : Nat} (hw : w < 60) (h : mBI b w s) : mBI b (w + 1) (mBS τ me w s) := by
  obtain ⟨h1, h2, h3, n, h4, h5, h6⟩ := h
  by_cases hc : 0 < w ∧ s.1 387 (n - 1) + mMo τ w ≤ me
  · obtain ⟨k, hk⟩ : ∃ k, n = k + 1 := ⟨n - 1, by have := h5 hc.1; omega⟩
    rw [hk] at h6 hc
    rw [mBS_y (by omega) h6 hc.1 hc.2]
    refine ⟨fun k q1 q2 q3 q4 => ?_, fun j hj => ?_, h3, n, by omega, fun _ => by omega, ?_⟩
    · rw [gPut_ne _ _ _ q4, gPut_ne _ _ _ q3]; exact h1 k q1 q2 q3 q4
    · exact h2 j hj
    · rw [hk]; exact h6
  · rw [mBS_n (by omega) h6 hc]
    refine ⟨fun k q1 q2 q3 q4 => ?_, fun j hj => ?_, h3, n + 1, by omega, fun _ => by omega, ?_⟩
    · rw [gPut_ne _ _ _ q1, gPut_ne _ _ _ q4, gPut_ne _ _ _ q3, gPut_ne _ _ _ q2]; exact h1 k q1 q2 q3 q4
    · rw [gPut_at, if_neg (by omega)]; exact h2 j hj
    · rw [gPut_at, if_pos ⟨rfl, rfl⟩]
theorem mBI_0 (b : gST) : mBI b 0 (gPut b 376 17 0) := ⟨fun k q1 _ _ _ => gPut_ne _ _ _ q1, fun j hj => by rw [gPut_at, if_neg (by omega)], rfl, 0, Nat.le_refl 0, fun h => absurd h (by omega), by rw [gPut_at, if_pos ⟨rfl, rfl⟩]; rfl⟩
theorem mBI_l {τ b : gST} {me : Int32} : ∀ (m i : Nat) (s : gST), i + m ≤ 60 → mBI b i s → mBI b (i + m) (gLoop (mBS τ me) i m s)
  | 0, _, _, _, h => h
  | m + 1, i, s, hi, h => by
    rw [show i + (m + 1) = (i + 1) + m by omega]
    exact mBI_l m (i + 1) _ (by omega) (mBI_s (by omega) h)
def mBr (τ : gST) (me : Int32) (b : gST) : gST := gLoop (mBS τ me) 0 (pW τ (gPl_ τ)).1 (gPut b 376 17 0)
/-- the lines of the class and of the model alike -/
def pLR (τ : gST) (w : Nat) (a s : gST) : Prop := a.1 363 7 = τ.1 1 4 + τ.1 1 5 + τ.1 1 4 ∧ ∃ n, n ≤ w ∧ (0 < w → 1 ≤ n) ∧ a.1 363 8 = nI n ∧ s.1 376 17 = nI n ∧
  ∀ j, j < n → s.1 387 j = a.1 371 j ∧ s.1 386 j = a.1 375 j ∧ ∃ x, x < (pW τ (gPl_ τ)).1 ∧ s.1 385 j = nI x ∧ a.1 373 j = nI ((pW τ (gPl_ τ)).2.1 x)
theorem pLR_s {τ a s : gST} {me : Int32} {w : Nat} (hw : w < 60) (hW : w < (pW τ (gPl_ τ)).1) (h : pLR τ w a s) : pLR τ (w + 1) (cBS τ me w a) (mBS τ me w s) := by
  obtain ⟨h0, n, h1, h2, h3, h4, h5⟩ := h
  have hna : nA (a.1 363 8) = n := by rw [h3]; exact nA_nI (by omega)
  unfold cBS
  by_cases hc : 0 < w ∧ s.1 387 (n - 1) + mMo τ w ≤ me
  · obtain ⟨k, hk⟩ : ∃ k, n = k + 1 := ⟨n - 1, by have := h2 hc.1; omega⟩
    subst hk
    rw [Nat.add_sub_cancel] at hc
    obtain ⟨p1, p2, p3⟩ := h5 k (by omega)
    have hc2 := hc.2
    rw [mBS_y (by omega) h4 hc.1 hc.2]
    rw [mMo_eq, p1] at hc2
    have e : gPw a (nI ((pW τ (gPl_ τ)).2.1 w)) (pWd τ w) me = gPut (gPut a 371 k (a.1 371 k + (τ.1 1 4 + τ.1 1 5 + τ.1 1 4) + pWd τ w)) 375 k (a.1 375 k + 1) := by
      unfold gPw
      rw [hna]
      dsimp only
      rw [h0]
      exact if_pos hc2
    rw [e]
    refine ⟨h0, k + 1, by omega, fun _ => by omega, h3, h4, fun j hj => ?_⟩
    rw [gPut_s, uN, gPut_ne _ _ _ (by decide), gPut_s, uN, gPut_ne _ _ _ (by decide), gPut_s, uN, gPut_ne _ _ _ (by decide), gPut_s, uN, gPut_ne _ _ _ (by decide), gPut_ne _ _ _ (by decide), gPut_ne _ _ _ (by decide), gPut_ne _ _ _ (by decide)]
    obtain ⟨r1, r2, r3⟩ := h5 j hj
    by_cases hjk : j = k
    · rw [if_pos hjk, if_pos hjk, if_pos hjk, if_pos hjk]
      refine ⟨?_, ?_, r3⟩
      · rw [mMo_eq, p1]
      · rw [p2]
    · rw [if_neg hjk, if_neg hjk, if_neg hjk, if_neg hjk]
      exact ⟨r1, r2, r3⟩
  · rw [mBS_n (by omega) h4 hc]
    have e : ∃ v, gPw a (nI ((pW τ (gPl_ τ)).2.1 w)) (pWd τ w) me = gNl (gPut a 363 9 v) n (nI ((pW τ (gPl_ τ)).2.1 w)) (pWd τ w) := by
      unfold gPw
      rw [hna]
      cases n with
      | zero => exact ⟨a.1 363 9, by
          have : gPut a 363 9 (a.1 363 9) = a := gPut_self a 363 9
          dsimp only
          rw [this]⟩
      | succ k =>
        dsimp only
        obtain ⟨p1, p2, p3⟩ := h5 k (by omega)
        rw [Nat.add_sub_cancel, mMo_eq, p1] at hc
        rw [h0]
        refine ⟨_, if_neg (fun h9 => hc ⟨?_, h9⟩)⟩
        omega
    obtain ⟨v, e⟩ := e
    rw [e]
    unfold gNl
    refine ⟨?_, n + 1, by omega, fun _ => by omega, ?_, ?_, fun j hj => ?_⟩
    · rw [gPut_at, if_neg (by decide), gPut_ne _ _ _ (by decide), gPut_ne _ _ _ (by decide), gPut_ne _ _ _ (by decide), gPut_at, if_neg (by decide)]; exact h0
    · rw [gPut_at, if_pos ⟨rfl, rfl⟩]
    · rw [gPut_at, if_pos ⟨rfl, rfl⟩]
    · by_cases hjn : j = n
      · subst hjn
        refine ⟨?_, ?_, w, hW, ?_, ?_⟩ <;> simp [gPut_at]
      · obtain ⟨r1, r2, x, r3, r4, r5⟩ := h5 j (by omega)
        refine ⟨?_, ?_, x, r3, ?_, ?_⟩
        · simp [gPut_at, hjn]; exact r1
        · simp [gPut_at, hjn]; exact r2
        · simp [gPut_at, hjn]; exact r4
        · simp [gPut_at, hjn]; exact r5
theorem pLR_l {τ : gST} {me : Int32} : ∀ (m i : Nat) (a s : gST), i + m ≤ 60 → i + m ≤ (pW τ (gPl_ τ)).1 → pLR τ i a s → pLR τ (i + m) (gLoop (cBS τ me) i m a) (gLoop (mBS τ me) i m s)
  | 0, _, _, _, _, _, h => h
  | m + 1, i, a, s, h1, h2, h => by
    rw [show i + (m + 1) = (i + 1) + m by omega]
    exact pLR_l m (i + 1) _ _ (by omega) (by omega) (pLR_s (by omega) (by omega) h)
theorem pLR_f {τ ρ : gST} (h : pSt τ ρ) (hn : gPl_ τ ≤ 60) (me : Int32) (b : gST) : pLR τ (pW τ (gPl_ τ)).1 (gBr ρ me) (mBr τ me b) := by
  have hk := (pW_I τ (gPl_ τ)).1
  have hS := h.la (gBr0_A ρ)
  have := pLR_l (τ := τ) (me := me) (pW τ (gPl_ τ)).1 0 (gBr0 ρ) (gPut b 376 17 0) (by omega) (by omega) ⟨hS.2.2.1, 0, Nat.le_refl 0, fun h9 => absurd h9 (by omega), by
    unfold gBr0; rw [gPut_at, if_neg (by decide), gPut_at, if_pos ⟨rfl, rfl⟩]; rfl, by rw [gPut_at, if_pos ⟨rfl, rfl⟩]; rfl, fun j hj => absurd hj (Nat.not_lt_zero _)⟩
  rw [Nat.zero_add] at this
  rw [gBr_eq h]
  exact this
