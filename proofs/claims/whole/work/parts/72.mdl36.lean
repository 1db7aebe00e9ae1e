theorem pSq_F {τ : gST} {nn : Int32} (hW : (pW τ (gPl_ τ)).1 ≤ 60) (h : ∀ j, j < 3600 → pSq τ j ≤ 100000 ∧ ¬ pOk τ nn (pSq τ j)) : False := by
  have hex : ∀ k, ∃ c : Nat, k < 3599 → c < 3481 ∧ ∃ f g, c = f * 59 + g ∧ g < 59 ∧ pSq τ (k + 1) = pRS τ f (g + 1) := by
    intro k
    by_cases hk : k < 3599
    · rcases pL_v τ (pSq τ k) with h1 | ⟨f, g, h1, h2, h3⟩
      · have h4 := (h (k + 1) (by omega)).1
        have h5 : pSq τ (k + 1) = 100001 := h1
        rw [h5] at h4
        exact absurd h4 (by decide)
      · refine ⟨f * 59 + (g - 1), fun _ => ⟨by omega, f, g - 1, rfl, by omega, ?_⟩⟩
        rw [show g - 1 + 1 = g by omega]
        exact h3
    · exact ⟨0, fun h9 => absurd h9 hk⟩
  obtain ⟨c, hc⟩ := Classical.axiomOfChoice hex
  have hE : ∀ k l, k < l → l < 3599 → pSq τ (k + 1) < pSq τ (l + 1) := fun k l h1 h2 => (pSq_E (nn := nn) (l + 1) (fun j hj => h j (by omega))).2.2 (k + 1) (by omega)
  have := pH 3481 3599 c (fun k hk => (hc k hk).1) (fun k l hk hl hkl => by
    obtain ⟨-, f, g, e1, e2, e3⟩ := hc k hk
    obtain ⟨-, f', g', e4, e5, e6⟩ := hc l hl
    have hf : f = f' ∧ g = g' := by omega
    rw [hf.1, hf.2, ← e6] at e3
    rcases Nat.lt_trichotomy k l with h1 | h1 | h1
    · have := hE k l h1 hl; rw [e3] at this; have h9 := i32_lt.mp this; omega
    · exact h1
    · have := hE l k h1 hk; rw [e3] at this; have h9 := i32_lt.mp this; omega)
  omega
def pLm (τ : gST) (nn : Int32) : Nat → Int32 → Int32
  | 0, _ => -1
  | f + 1, m => if 100000 < m then -1 else if nI (pL τ m).1 ≤ nn then m else pLm τ nn f (pL τ m).2.2
theorem gLm_p {τ : gST} {nn : Int32} (hn : gPl_ τ ≤ 60) : ∀ (f : Nat) (m : Int32) (w : gST), pSt τ w → (gLm nn f m w).1 = pLm τ nn f m
  | 0, _, _, _ => rfl
  | f + 1, m, w, h => by
    unfold gLm pLm
    obtain ⟨e1, e2, -⟩ := pL_c h hn m
    rw [e1, e2]
    split
    · rfl
    · split
      · rfl
      · exact gLm_p hn f _ _ (h.la (gBr_A w m))
/-- the least sufficient measure, or none -/
def pGood (τ : gST) (nn x : Int32) : Prop := (x = -1 ∧ ∀ m : Int32, 1 ≤ m.toInt → m.toInt ≤ 100000 → ¬ pOk τ nn m) ∨
  (1 ≤ x.toInt ∧ x.toInt ≤ 100000 ∧ pOk τ nn x ∧ (∀ m : Int32, 1 ≤ m.toInt → m < x → ¬ pOk τ nn m) ∧ (x = 1 ∨ ∃ f g, f < g ∧ g < (pW τ (gPl_ τ)).1 ∧ x = pRS τ f g))
theorem t100 : ((100000 : Int32)).toInt = 100000 := by decide
theorem pLm_g {τ : gST} {nn : Int32} (hW : (pW τ (gPl_ τ)).1 ≤ 60) : ∀ (f k : Nat), k + f = 3600 → (∀ j, j < k → pSq τ j ≤ 100000 ∧ ¬ pOk τ nn (pSq τ j)) → pGood τ nn (pLm τ nn f (pSq τ k))
  | 0, k, hk, h => by
    have : k = 3600 := by omega
    subst this
    exact (pSq_F hW h).elim
  | f + 1, k, hk, h => by
    obtain ⟨e1, e2, -⟩ := pSq_E k h
    unfold pLm
    by_cases c1 : 100000 < pSq τ k
    · rw [if_pos c1]
      refine Or.inl ⟨rfl, fun m q1 q2 => e2 m q1 (i32_lt.mpr ?_)⟩
      have := i32_lt.mp c1
      rw [t100] at this
      omega
    · rw [if_neg c1]
      have c2 := i32_le.mp (Int32.not_lt.mp c1)
      rw [t100] at c2
      by_cases c3 : nI (pL τ (pSq τ k)).1 ≤ nn
      · rw [if_pos c3]
        refine Or.inr ⟨e1, c2, c3, e2, ?_⟩
        cases k with
        | zero => exact Or.inl rfl
        | succ j =>
          rcases pL_v τ (pSq τ j) with h1 | h1
          · exfalso
            have h5 : pSq τ (j + 1) = 100001 := h1
            rw [h5] at c2
            exact absurd c2 (by decide)
          · exact Or.inr h1
      · rw [if_neg c3]
        exact pLm_g hW f (k + 1) (by omega) (fun j hj => by
          by_cases hjk : j = k
          · rw [hjk]; exact ⟨Int32.not_lt.mp c1, c3⟩
          · exact h j (by omega))
theorem gLm_g {τ : gST} {nn : Int32} (hn : gPl_ τ ≤ 60) : pGood τ nn (gLm nn 3600 1 (gSet τ)).1 := by
  have hk := (pW_I τ (gPl_ τ)).1
  rw [gLm_p hn 3600 1 _ (pSt_set τ)]
  exact pLm_g (by omega) 3600 0 (by omega) (fun j hj => absurd hj (Nat.not_lt_zero _))
/-- the model's trying -/
def pTc (v b : Int32) : Prop := (1 ≤ v.toInt ∧ v.toInt ≤ 100000) ∧ (b < 0 ∨ v < b)
def pTr (τ : gST) (nn v b : Int32) : Int32 := if ((1 ≤ v.toInt ∧ v.toInt ≤ 100000) ∧ (b < 0 ∨ v < b)) ∧ nI (pL τ v).1 ≤ nn then v else b
def mTw (τ : gST) (v b : Int32) (s : gST) : gST := if (1 ≤ v.toInt ∧ v.toInt ≤ 100000) ∧ (b < 0 ∨ v < b) then mBr τ v s else s
def pIn (τ : gST) (nn : Int32) (w : Nat) (a : Int32 × Int32) : Int32 × Int32 := (a.1 + mMo τ w, pTr τ nn (a.1 + mMo τ w) a.2)
def pOu (τ : gST) (nn : Int32) (f : Nat) (b : Int32) : Int32 := (gLoop (pIn τ nn) (f + 1) ((pW τ (gPl_ τ)).1 - (f + 1)) (pWd τ f, pTr τ nn (pWd τ f) b)).2
def pBest (τ : gST) (nn : Int32) : Int32 := gLoop (pOu τ nn) 0 (pW τ (gPl_ τ)).1 (pTr τ nn 1 (-1))
def pInv (τ : gST) (nn b : Int32) : Prop := b = -1 ∨ (1 ≤ b.toInt ∧ b.toInt ≤ 100000 ∧ pOk τ nn b)
theorem pTr_I {τ : gST} {nn v b : Int32} (h : pInv τ nn b) : pInv τ nn (pTr τ nn v b) := by
  unfold pTr
  split
  · rename_i h1; exact Or.inr ⟨h1.1.1.1, h1.1.1.2, h1.2⟩
  · exact h
theorem pIn_I {τ : gST} {nn : Int32} (m i : Nat) (a : Int32 × Int32) (h : pInv τ nn a.2) : pInv τ nn (gLoop (pIn τ nn) i m a).2 :=
  gLoop_inv (I := fun a : Int32 × Int32 => pInv τ nn a.2) (fun _ _ h => pTr_I h) m i a h
theorem pOu_I {τ : gST} {nn : Int32} (f : Nat) (b : Int32) (h : pInv τ nn b) : pInv τ nn (pOu τ nn f b) := pIn_I _ _ _ (pTr_I h)
theorem pIn_w {τ : gST} {nn : Int32} : ∀ (m i : Nat) (a : Int32 × Int32), (gLoop (pIn τ nn) i m a).1 = gLoop (fun w x => x + mMo τ w) i m a.1 := by
  intro m
  induction m with
  | zero => intro i a; rw [gLoop_zero, gLoop_zero]
  | succ m ih => intro i a; rw [gLoop_f, gLoop_f, ih]; rfl
theorem pTr_x {τ : gST} {nn x : Int32} (h1 : 1 ≤ x.toInt) (h4 : ∀ m : Int32, 1 ≤ m.toInt → m < x → ¬ pOk τ nn m) (v : Int32) : pTr τ nn v x = x := by
  unfold pTr
  split
  · rename_i h
    exfalso
    rcases h.1.2 with h5 | h5
    · have := i32_lt.mp h5
      rw [show ((0 : Int32)).toInt = 0 from rfl] at this
      omega
    · exact h4 v h.1.1.1 h5 h.2
  · rfl
theorem pTr_h {τ : gST} {nn x : Int32} (h1 : 1 ≤ x.toInt) (h2 : x.toInt ≤ 100000) (h3 : pOk τ nn x) (h4 : ∀ m : Int32, 1 ≤ m.toInt → m < x → ¬ pOk τ nn m) {b : Int32} (h : pInv τ nn b) : pTr τ nn x b = x := by
  unfold pTr
  split
  · rfl
  · rename_i h5
    rcases h with h6 | ⟨h6, h7, h8⟩
    · exact absurd ⟨⟨⟨h1, h2⟩, Or.inl (by rw [h6]; decide)⟩, h3⟩ h5
    · have h9 : ¬ x < b := fun h10 => h5 ⟨⟨⟨h1, h2⟩, Or.inr h10⟩, h3⟩
      have h10 : ¬ b < x := fun h11 => h4 b h6 h11 h8
      exact Int32.le_antisymm (Int32.not_lt.mp h9) (Int32.not_lt.mp h10)
theorem pIn_x {τ : gST} {nn x : Int32} (h1 : 1 ≤ x.toInt) (h4 : ∀ m : Int32, 1 ≤ m.toInt → m < x → ¬ pOk τ nn m) (m i : Nat) (a : Int32 × Int32) (h : a.2 = x) : (gLoop (pIn τ nn) i m a).2 = x :=
  gLoop_inv (I := fun a : Int32 × Int32 => a.2 = x) (fun _ a h => by show pTr τ nn _ a.2 = x; rw [h]; exact pTr_x h1 h4 _) m i a h
theorem pOu_x {τ : gST} {nn x : Int32} (h1 : 1 ≤ x.toInt) (h4 : ∀ m : Int32, 1 ≤ m.toInt → m < x → ¬ pOk τ nn m) (f : Nat) : pOu τ nn f x = x := pIn_x h1 h4 _ _ _ (pTr_x h1 h4 _)
theorem pOu_h {τ : gST} {nn x : Int32} (h1 : 1 ≤ x.toInt) (h2 : x.toInt ≤ 100000) (h3 : pOk τ nn x) (h4 : ∀ m : Int32, 1 ≤ m.toInt → m < x → ¬ pOk τ nn m) {f g : Nat} (hf : f < g) (hg : g < (pW τ (gPl_ τ)).1) (hx : x = pRS τ f g) {b : Int32} (h : pInv τ nn b) : pOu τ nn f b = x := by
  unfold pOu
  rw [show (pW τ (gPl_ τ)).1 - (f + 1) = (g - (f + 1)) + (((pW τ (gPl_ τ)).1 - g - 1) + 1) by omega, gLoop_add, gLoop_f]
  refine pIn_x h1 h4 _ _ _ ?_
  show pTr τ nn ((gLoop (pIn τ nn) (f + 1) (g - (f + 1)) (pWd τ f, pTr τ nn (pWd τ f) b)).1 + mMo τ (f + 1 + (g - (f + 1)))) _ = x
  have e : (gLoop (pIn τ nn) (f + 1) (g - (f + 1)) (pWd τ f, pTr τ nn (pWd τ f) b)).1 + mMo τ (f + 1 + (g - (f + 1))) = x := by
    rw [pIn_w, hx]
    have := pRS_s τ (f := f) (g := g - 1) (by omega)
    rw [show g - 1 + 1 = g by omega] at this
    rw [this, show f + 1 + (g - (f + 1)) = g by omega, show g - (f + 1) = g - 1 - f by omega]
    rfl
  rw [e]
  exact pTr_h h1 h2 h3 h4 (pIn_I _ _ _ (pTr_I h))
theorem pBest_eq {τ : gST} {nn x : Int32} (h : pGood τ nn x) : pBest τ nn = x := by
  have h0 : pInv τ nn (pTr τ nn 1 (-1)) := pTr_I (Or.inl rfl)
  rcases h with ⟨hx, h⟩ | ⟨h1, h2, h3, h4, h5⟩
  · have : pInv τ nn (pBest τ nn) := gLoop_inv (I := pInv τ nn) (fun f b hb => pOu_I f b hb) _ _ _ h0
    rcases this with h6 | ⟨h6, h7, h8⟩
    · rw [h6, hx]
    · exact absurd h8 (h _ h6 h7)
  · unfold pBest
    rcases h5 with h5 | ⟨f, g, h5, h6, h7⟩
    · have e : pTr τ nn 1 (-1) = x := by
        have := pTr_h (b := -1) h1 h2 h3 h4 (Or.inl rfl)
        rw [show pTr τ nn x (-1) = pTr τ nn 1 (-1) from congrArg (fun y => pTr τ nn y (-1)) h5] at this
        exact this
      rw [e]
      exact gLoop_inv (I := fun b => b = x) (fun f b hb => by rw [hb]; exact pOu_x h1 h4 f) _ _ _ rfl
    · rw [show (pW τ (gPl_ τ)).1 = f + (((pW τ (gPl_ τ)).1 - f - 1) + 1) by omega, gLoop_add, gLoop_f, Nat.zero_add]
      refine gLoop_inv (I := fun b => b = x) (fun f b hb => by rw [hb]; exact pOu_x h1 h4 f) _ _ _ ?_
      exact pOu_h h1 h2 h3 h4 h5 h6 h7 (gLoop_inv (I := pInv τ nn) (fun f b hb => pOu_I f b hb) _ _ _ h0)
