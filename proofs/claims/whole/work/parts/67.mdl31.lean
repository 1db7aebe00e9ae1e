/-- how wide the entries from s on are, l of them -/
def pWid (τ : gST) (s l : Nat) : Int32 := pBg τ (s + l - 1) + pWO τ (pP τ (s + l - 1)) - pBg τ s
theorem pWid_d (τ : gST) {w : Nat} (h : 1 ≤ (pW τ (gPl_ τ)).2.2 w) : pWid τ ((pW τ (gPl_ τ)).2.1 w) ((pW τ (gPl_ τ)).2.2 w) = pWd τ w := by
  have h1 := pBg_l τ ((pW τ (gPl_ τ)).2.2 w - 1) ((pW τ (gPl_ τ)).2.1 w) (pWO τ (pP τ ((pW τ (gPl_ τ)).2.1 w + (pW τ (gPl_ τ)).2.2 w - 1)))
  unfold pWid pWd
  rw [show (pW τ (gPl_ τ)).2.1 w + ((pW τ (gPl_ τ)).2.2 w - 1) = (pW τ (gPl_ τ)).2.1 w + (pW τ (gPl_ τ)).2.2 w - 1 by omega] at h1
  rw [Int32.add_comm (pBg τ _), ← h1, Int32.add_sub_cancel]
/-- the class's word w onto the lines -/
def cBW (τ : gST) (me : Int32) (W : Nat × (Nat → Nat) × (Nat → Nat)) (w : Nat) (a : gST) : gST := gPw a (nI (W.2.1 w)) (pWid τ (W.2.1 w) (W.2.2 w)) me
theorem cBW_d (τ : gST) (me : Int32) (W : Nat × (Nat → Nat) × (Nat → Nat)) (w : Nat) (a : gST) : cBW τ me W w a = gPw a (nI (W.2.1 w)) (pWid τ (W.2.1 w) (W.2.2 w)) me := rfl
def pDone (τ : gST) (i : Nat) : Nat := if pNew τ i ∨ gPg τ i = none then (pW τ i).1 else (pW τ i).1 - 1
def cBI (τ : gST) (me : Int32) (a0 : gST) (i : Nat) (a : Nat × gST) : Prop := a.2 = gLoop (cBW τ me (pW τ i)) 0 (pDone τ i) a0 ∧ a.1 = if pNew τ i then i else (pW τ i).2.1 ((pW τ i).1 - 1)
theorem gLoop_last {α : Type} {s : Nat → α → α} (n : Nat) (a : α) : gLoop s 0 (n + 1) a = s n (gLoop s 0 n a) := by
  rw [gLoop_add, Nat.zero_add]
  rfl
theorem cBI_s {τ ρ a0 : gST} {me : Int32} {i : Nat} {a : Nat × gST} (hg : gPg ρ = gPg τ) (hb : ∀ i, i < gPl_ τ → ρ.1 367 i = pBg τ i ∧ ρ.1 369 i = pBg τ i + pWO τ (pP τ i)) (hi : i < gPl_ τ) (h : cBI τ me a0 i a) : cBI τ me a0 (i + 1) (gBlS ρ me i a) := by
  obtain ⟨h1, h2⟩ := h
  obtain ⟨hI1, hI2, hI3⟩ := pW_I τ i
  have hgi : gPg τ i = pP τ i := if_pos hi
  have hnew : pNew τ (i + 1) ↔ pP τ i = none := ⟨fun h => h.elim (fun h9 => absurd h9 (by omega)) id, fun h => Or.inr h⟩
  unfold cBI gBlS
  rw [hg, hgi]
  cases hc : pP τ i with
  | none =>
    have d1 : pDone τ i = (pW τ i).1 := if_pos (Or.inr (hgi.trans hc))
    have d2 : pDone τ (i + 1) = (pW τ i).1 := (if_pos (Or.inl (hnew.mpr hc))).trans (by rw [pW_n hc])
    rw [d2, pW_n hc, if_pos (hnew.mpr hc)]
    rw [d1] at h1
    exact ⟨h1, rfl⟩
  | some g =>
    have hn1 : ¬ pNew τ (i + 1) := fun h9 => by rw [hnew, hc] at h9; cases h9
    rw [if_neg hn1]
    by_cases hb1 : pNew τ i
    · have d1 : pDone τ i = (pW τ i).1 := if_pos (Or.inl hb1)
      rw [if_pos hb1] at h2
      rw [d1] at h1
      have ecg : gLoop (cBW τ me (pW τ i)) 0 (pW τ i).1 a0 = gLoop (cBW τ me (pW τ (i + 1))) 0 (pW τ i).1 a0 := gLoop_congr _ _ _ (fun k _ hk b => by
        unfold cBW
        rw [pW_b hc hb1]
        dsimp only
        rw [nU_n _ _ (by omega), nU_n _ _ (by omega)])
      rw [ecg] at h1
      have e1 : (pW τ (i + 1)).1 = (pW τ i).1 + 1 := by rw [pW_b hc hb1]
      have e2 : (pW τ (i + 1)).2.1 (pW τ i).1 = i := by rw [pW_b hc hb1]; exact nU_s _ _ _
      have e3 : (pW τ (i + 1)).2.2 (pW τ i).1 = 1 := by rw [pW_b hc hb1]; exact nU_s _ _ _
      cases hd : gPg τ (i + 1) with
      | none =>
        have d2 : pDone τ (i + 1) = (pW τ i).1 + 1 := (if_pos (Or.inr hd)).trans e1
        rw [d2, gLoop_last, e1, Nat.add_sub_cancel, e2]
        refine ⟨?_, h2⟩
        show gPw a.2 (nI a.1) (ρ.1 369 i - ρ.1 367 a.1) me = cBW τ me (pW τ (i + 1)) (pW τ i).1 _
        unfold cBW
        rw [e2, e3, h2, (hb i hi).1, (hb i hi).2, h1]
        rfl
      | some x =>
        have d2 : pDone τ (i + 1) = (pW τ i).1 := (if_neg (fun h9 => h9.elim hn1 (fun h8 => by rw [hd] at h8; cases h8))).trans (by rw [e1, Nat.add_sub_cancel])
        rw [d2, e1, Nat.add_sub_cancel, e2]
        exact ⟨h1, h2⟩
    · obtain ⟨hk1, hk2⟩ := hI3 hb1
      have hlo := (hI2 ((pW τ i).1 - 1) (by omega)).1
      have d1 : pDone τ i = (pW τ i).1 - 1 := if_neg (fun h9 => h9.elim hb1 (fun h8 => by rw [hgi, hc] at h8; cases h8))
      rw [if_neg hb1] at h2
      rw [d1] at h1
      have ecg : gLoop (cBW τ me (pW τ i)) 0 ((pW τ i).1 - 1) a0 = gLoop (cBW τ me (pW τ (i + 1))) 0 ((pW τ i).1 - 1) a0 := gLoop_congr _ _ _ (fun k _ hk b => by
        unfold cBW
        rw [pW_c hc hb1]
        dsimp only
        rw [nU_n _ _ (by omega)])
      rw [ecg] at h1
      have e1 : (pW τ (i + 1)).1 = (pW τ i).1 := by rw [pW_c hc hb1]
      have e2 : (pW τ (i + 1)).2.1 = (pW τ i).2.1 := by rw [pW_c hc hb1]
      have e3 : (pW τ (i + 1)).2.2 ((pW τ i).1 - 1) = (pW τ i).2.2 ((pW τ i).1 - 1) + 1 := by rw [pW_c hc hb1]; exact nU_s _ _ _
      cases hd : gPg τ (i + 1) with
      | none =>
        have d2 : pDone τ (i + 1) = ((pW τ i).1 - 1) + 1 := (if_pos (Or.inr hd)).trans (by rw [e1]; omega)
        rw [d2, gLoop_last, e1, e2]
        refine ⟨?_, h2⟩
        show gPw a.2 (nI a.1) (ρ.1 369 i - ρ.1 367 a.1) me = cBW τ me (pW τ (i + 1)) ((pW τ i).1 - 1) _
        rw [cBW_d]
        have hlt : (pW τ i).2.1 ((pW τ i).1 - 1) < gPl_ τ := by omega
        rw [e2, e3, h2, (hb _ hlt).1, (hb i hi).2, h1]
        unfold pWid
        rw [show (pW τ i).2.1 ((pW τ i).1 - 1) + ((pW τ i).2.2 ((pW τ i).1 - 1) + 1) - 1 = i by omega]
      | some x =>
        have d2 : pDone τ (i + 1) = (pW τ i).1 - 1 := (if_neg (fun h9 => h9.elim hn1 (fun h8 => by rw [hd] at h8; cases h8))).trans (by rw [e1])
        rw [d2, e1, e2]
        exact ⟨h1, h2⟩
theorem cBI_l {τ ρ a0 : gST} {me : Int32} (hg : gPg ρ = gPg τ) (hb : ∀ i, i < gPl_ τ → ρ.1 367 i = pBg τ i ∧ ρ.1 369 i = pBg τ i + pWO τ (pP τ i)) : ∀ (m i : Nat) (a : Nat × gST), i + m = gPl_ τ → cBI τ me a0 i a → cBI τ me a0 (gPl_ τ) (gLoop (gBlS ρ me) i m a)
  | 0, i, a, hi, h => by
    have : i = gPl_ τ := by omega
    rw [← this]; exact h
  | m + 1, i, a, hi, h => cBI_l hg hb m (i + 1) _ (by omega) (cBI_s hg hb (by omega) h)
/-- the class's word w onto the lines, all words known -/
def cBS (τ : gST) (me : Int32) (w : Nat) (a : gST) : gST := gPw a (nI ((pW τ (gPl_ τ)).2.1 w)) (pWd τ w) me
/-- the proof is set -/
def pSt (τ ρ : gST) : Prop := gPg ρ = gPg τ ∧ gPl_ ρ = gPl_ τ ∧ ρ.1 363 7 = τ.1 1 4 + τ.1 1 5 + τ.1 1 4 ∧ ∀ i, i < gPl_ τ → ρ.1 367 i = pBg τ i ∧ ρ.1 369 i = pBg τ i + pWO τ (pP τ i)
theorem pSt.la {τ ρ ρ' : gST} (h : pSt τ ρ) (hA : gLA ρ ρ') : pSt τ ρ' := by
  obtain ⟨h1, h2, h3, h4⟩ := h
  refine ⟨hA.pg.trans h1, ?_, (hA.2.1 7 (by decide) (by decide)).trans h3, ?_⟩
  · have : gPl_ ρ' = gPl_ ρ := by unfold gPl_; rw [hA.2.1 6 (by decide) (by decide)]
    exact this.trans h2
  · rw [hA.1 367 (by decide) (by decide) (by decide) (by decide), hA.1 369 (by decide) (by decide) (by decide) (by decide)]
    exact h4
theorem pSt_set (τ : gST) : pSt τ (gSet τ) := by
  obtain ⟨h1, h2, h3, -, h5⟩ := gSet_k τ
  have e : gPl_ (gSet τ) = gPl_ τ := by unfold gPl_; rw [h2 6 (by decide)]
  refine ⟨?_, e, h3, h5⟩
  funext i
  unfold gPg
  rw [e, h1 365 (by decide) (by decide) (by decide)]
theorem gBr_eq {τ ρ : gST} (h : pSt τ ρ) (me : Int32) : gBr ρ me = gLoop (cBS τ me) 0 (pW τ (gPl_ τ)).1 (gBr0 ρ) := by
  have hS := h.la (gBr0_A ρ)
  have hI := cBI_l (me := me) (a0 := gBr0 ρ) hS.1 hS.2.2.2 (gPl_ τ) 0 (0, gBr0 ρ) (by omega) ⟨by
    have e : pDone τ 0 = 0 := if_pos (Or.inl (Or.inl rfl))
    rw [e]; rfl, rfl⟩
  have e1 : gPg τ (gPl_ τ) = none := if_neg (Nat.lt_irrefl _)
  have d : pDone τ (gPl_ τ) = (pW τ (gPl_ τ)).1 := if_pos (Or.inr e1)
  rw [show gBr ρ me = (gLoop (gBlS (gBr0 ρ) me) 0 (gPl_ τ) (0, gBr0 ρ)).2 by unfold gBr; rw [h.2.1]]
  rw [hI.1, d]
  exact gLoop_congr _ _ _ (fun k _ hk b => by
    unfold cBW cBS
    rw [pWid_d τ ((pW_I τ (gPl_ τ)).2.1 k (by omega)).1])
