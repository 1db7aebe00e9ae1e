/-- r lies as far out as v -/
def leB (b : Bool) (r v : Int32) : Prop := if b = true then v.toInt ≤ r.toInt else r.toInt ≤ v.toInt
theorem leB.rf (b : Bool) (r : Int32) : leB b r r := by cases b <;> exact Int.le_refl _
theorem leB.tr {b : Bool} {r s t : Int32} (h : leB b r s) (h2 : leB b s t) : leB b r t := by
  cases b
  · exact Int.le_trans (show r.toInt ≤ s.toInt from h) h2
  · exact Int.le_trans (show t.toInt ≤ s.toInt from h2) h
theorem gMx_le (b : Bool) (a v : Int32) : leB b (gMxx b a v) a ∧ leB b (gMxx b a v) v ∧ (gMxx b a v = a ∨ gMxx b a v = v) := by
  cases b
  · show leB false (if v < a then v else a) a ∧ leB false (if v < a then v else a) v ∧ _
    by_cases h : v < a
    · have h2 := Int32.lt_iff_toInt_lt.mp h
      have e : gMxx false a v = v := if_pos h
      rw [e, if_pos h]
      exact ⟨Int.le_of_lt h2, Int.le_refl _, Or.inr rfl⟩
    · have h2 := Int32.le_iff_toInt_le.mp (Int32.not_lt.mp h)
      have e : gMxx false a v = a := if_neg h
      rw [e, if_neg h]
      exact ⟨Int.le_refl _, h2, Or.inl rfl⟩
  · show leB true (if a < v then v else a) a ∧ leB true (if a < v then v else a) v ∧ _
    by_cases h : a < v
    · have h2 := Int32.lt_iff_toInt_lt.mp h
      have e : gMxx true a v = v := if_pos h
      rw [e, if_pos h]
      exact ⟨Int.le_of_lt h2, Int.le_refl _, Or.inr rfl⟩
    · have h2 := Int32.le_iff_toInt_le.mp (Int32.not_lt.mp h)
      have e : gMxx true a v = a := if_neg h
      rw [e, if_neg h]
      exact ⟨Int.le_refl _, h2, Or.inl rfl⟩
theorem gMx_in {b : Bool} {f : Nat → Int32} : ∀ (m i : Nat) (a : Int32), leB b (gLoop (fun p a => gMxx b a (f p)) i m a) a ∧ (∀ p, i ≤ p → p < i + m → leB b (gLoop (fun p a => gMxx b a (f p)) i m a) (f p)) ∧ (gLoop (fun p a => gMxx b a (f p)) i m a = a ∨ ∃ p, i ≤ p ∧ p < i + m ∧ gLoop (fun p a => gMxx b a (f p)) i m a = f p)
  | 0, i, a => ⟨leB.rf b a, fun p h1 h2 => by omega, Or.inl rfl⟩
  | m + 1, i, a => by
    obtain ⟨h1, h2, h3⟩ := gMx_in (b := b) (f := f) m (i + 1) (gMxx b a (f i))
    obtain ⟨g1, g2, g3⟩ := gMx_le b a (f i)
    refine ⟨h1.tr g1, fun p q1 q2 => ?_, ?_⟩
    · rcases Nat.eq_or_lt_of_le q1 with e | e
      · subst e; exact h1.tr g2
      · exact h2 p e (by omega)
    · rcases h3 with h3 | ⟨p, q1, q2, q3⟩
      · rcases g3 with g3 | g3
        · exact Or.inl (h3.trans g3)
        · exact Or.inr ⟨i, Nat.le_refl _, by omega, h3.trans g3⟩
      · exact Or.inr ⟨p, by omega, by omega, q3⟩
theorem gMx_out {b : Bool} {f : Nat → Nat → Int32} {pm : Nat → Nat} : ∀ (m i : Nat) (a : Int32), leB b (gLoop (fun c a => gLoop (fun p a => gMxx b a (f c p)) 0 (pm c) a) i m a) a ∧ (∀ c p, i ≤ c → c < i + m → p < pm c → leB b (gLoop (fun c a => gLoop (fun p a => gMxx b a (f c p)) 0 (pm c) a) i m a) (f c p)) ∧
    (gLoop (fun c a => gLoop (fun p a => gMxx b a (f c p)) 0 (pm c) a) i m a = a ∨ ∃ c p, i ≤ c ∧ c < i + m ∧ p < pm c ∧ gLoop (fun c a => gLoop (fun p a => gMxx b a (f c p)) 0 (pm c) a) i m a = f c p)
  | 0, i, a => ⟨leB.rf b a, fun c p h1 h2 => by omega, Or.inl rfl⟩
  | m + 1, i, a => by
    obtain ⟨g1, g2, g3⟩ := gMx_in (b := b) (f := f i) (pm i) 0 a
    obtain ⟨h1, h2, h3⟩ := gMx_out (b := b) (f := f) (pm := pm) m (i + 1) (gLoop (fun p a => gMxx b a (f i p)) 0 (pm i) a)
    refine ⟨h1.tr g1, fun c p q1 q2 q3 => ?_, ?_⟩
    · rcases Nat.eq_or_lt_of_le q1 with e | e
      · subst e; exact h1.tr (g2 p (Nat.zero_le _) (by omega))
      · exact h2 c p e (by omega) q3
    · rcases h3 with h3 | ⟨c, p, q1, q2, q3, q4⟩
      · rcases g3 with g3 | ⟨p, q1, q2, q3⟩
        · exact Or.inl (h3.trans g3)
        · exact Or.inr ⟨i, p, Nat.le_refl _, by omega, by omega, h3.trans q3⟩
      · exact Or.inr ⟨c, p, by omega, by omega, q3, q4⟩
theorem gEx_spec {b : Bool} {f : Nat → Int32} {pm : Nat → Nat} {g N : Nat} (hN : 0 < N) (h0 : 0 < pm 0) : (∀ c p, c < N → p < pm c → leB b (gEx b f pm g N) (f ((g * 3 + c) * 12 + p))) ∧ ∃ c p, c < N ∧ p < pm c ∧ gEx b f pm g N = f ((g * 3 + c) * 12 + p) := by
  obtain ⟨h1, h2, h3⟩ := gMx_out (b := b) (f := fun c p => f ((g * 3 + c) * 12 + p)) (pm := pm) N 0 (f ((g * 3 + 0) * 12 + 0))
  have e : gEx b f pm g N = gLoop (fun c a => gLoop (fun p a => gMxx b a (f ((g * 3 + c) * 12 + p))) 0 (pm c) a) 0 N (f ((g * 3 + 0) * 12 + 0)) := by
    unfold gEx
    rw [if_neg (by omega)]
  rw [e]
  refine ⟨fun c p q1 q2 => h2 c p (Nat.zero_le _) (by omega) q2, ?_⟩
  rcases h3 with h3 | ⟨c, p, q1, q2, q3, q4⟩
  · exact ⟨0, 0, hN, h0, h3⟩
  · exact ⟨c, p, by omega, q3, q4⟩
/-- a point may be moved -/
def gMvG (τ : gST) (i : Nat) (dx dy : Int32) (c p : Nat) : Prop := gCo ((τ.1 10 ((i * 3 + c) * 12 + p)).toInt + dx.toInt) ((τ.1 12 ((i * 3 + c) * 12 + p)).toInt + dy.toInt)
theorem gSh_iff {τ : gST} {i : Nat} {dx dy : Int32} (hC : gCI τ) (hi : i < gNg τ) : (gNc τ i = 0 ∨ (gCo ((gEx false (τ.1 10) (gNp τ i) i (gNc τ i)).toInt + dx.toInt) ((gEx false (τ.1 12) (gNp τ i) i (gNc τ i)).toInt + dy.toInt) ∧ gCo ((gEx true (τ.1 10) (gNp τ i) i (gNc τ i)).toInt + dx.toInt) ((gEx true (τ.1 12) (gNp τ i) i (gNc τ i)).toInt + dy.toInt))) ↔
    ∀ c p, c < gNc τ i → p < gNp τ i c → gMvG τ i dx dy c p := by
  by_cases h0 : gNc τ i = 0
  · exact ⟨fun _ c p hc => by omega, fun _ => Or.inl h0⟩
  · have hp := hC.po.1 i 0 hi (by omega)
    obtain ⟨x1, c1, p1, a1, b1, e1⟩ := gEx_spec (b := false) (f := τ.1 10) (pm := gNp τ i) (g := i) (N := gNc τ i) (by omega) (by omega)
    obtain ⟨x2, c2, p2, a2, b2, e2⟩ := gEx_spec (b := false) (f := τ.1 12) (pm := gNp τ i) (g := i) (N := gNc τ i) (by omega) (by omega)
    obtain ⟨x3, c3, p3, a3, b3, e3⟩ := gEx_spec (b := true) (f := τ.1 10) (pm := gNp τ i) (g := i) (N := gNc τ i) (by omega) (by omega)
    obtain ⟨x4, c4, p4, a4, b4, e4⟩ := gEx_spec (b := true) (f := τ.1 12) (pm := gNp τ i) (g := i) (N := gNc τ i) (by omega) (by omega)
    constructor
    · intro h c p hc hp2
      rcases h with h | ⟨h1, h2⟩
      · exact absurd h h0
      · have y1 : (gEx false (τ.1 10) (gNp τ i) i (gNc τ i)).toInt ≤ _ := x1 c p hc hp2
        have y2 : (gEx false (τ.1 12) (gNp τ i) i (gNc τ i)).toInt ≤ _ := x2 c p hc hp2
        have y3 : _ ≤ (gEx true (τ.1 10) (gNp τ i) i (gNc τ i)).toInt := x3 c p hc hp2
        have y4 : _ ≤ (gEx true (τ.1 12) (gNp τ i) i (gNc τ i)).toInt := x4 c p hc hp2
        unfold gMvG
        omega
    · intro h
      refine Or.inr ⟨?_, ?_⟩
      · have q1 := h c1 p1 a1 b1
        have q2 := h c2 p2 a2 b2
        unfold gMvG at q1 q2
        rw [e1, e2]
        omega
      · have q1 := h c3 p3 a3 b3
        have q2 := h c4 p4 a4 b4
        unfold gMvG at q1 q2
        rw [e3, e4]
        omega
/-- the class's points moved -/
theorem gMv_in {g c : Nat} {dx dy : Int32} : ∀ (m i : Nat) (a : gST), (∀ k, k ≠ 10 → k ≠ 12 → (gLoop (gMv g c dx dy) i m a).1 k = a.1 k) ∧ (gLoop (gMv g c dx dy) i m a).2 = a.2 ∧ ∀ x, (gLoop (gMv g c dx dy) i m a).1 10 x = (if (g * 3 + c) * 12 + i ≤ x ∧ x < (g * 3 + c) * 12 + i + m then a.1 10 x + dx else a.1 10 x) ∧ (gLoop (gMv g c dx dy) i m a).1 12 x = (if (g * 3 + c) * 12 + i ≤ x ∧ x < (g * 3 + c) * 12 + i + m then a.1 12 x + dy else a.1 12 x)
  | 0, i, a => ⟨fun _ _ _ => rfl, rfl, fun x => ⟨by rw [if_neg (by omega)]; rfl, by rw [if_neg (by omega)]; rfl⟩⟩
  | m + 1, i, a => by
    obtain ⟨h1, h2, h3⟩ := gMv_in (g := g) (c := c) (dx := dx) (dy := dy) m (i + 1) (gMv g c dx dy i a)
    have e10 : ∀ x, (gMv g c dx dy i a).1 10 x = if x = (g * 3 + c) * 12 + i then a.1 10 x + dx else a.1 10 x := fun x => by
      unfold gMv
      rw [gPut_ne _ _ _ (by decide), gPut_s, uN]
      split
      · rename_i e; rw [e]
      · rfl
    have e12 : ∀ x, (gMv g c dx dy i a).1 12 x = if x = (g * 3 + c) * 12 + i then a.1 12 x + dy else a.1 12 x := fun x => by
      unfold gMv
      rw [gPut_s, uN]
      split
      · rename_i e; rw [e]
      · rw [gPut_ne _ _ _ (by decide)]
    refine ⟨fun k q1 q2 => (h1 k q1 q2).trans ?_, h2, fun x => ⟨(h3 x).1.trans ?_, (h3 x).2.trans ?_⟩⟩
    · unfold gMv
      rw [gPut_ne _ _ _ q2, gPut_ne _ _ _ q1]
    · rw [e10]
      by_cases hx : x = (g * 3 + c) * 12 + i
      · rw [if_neg (by omega), if_pos hx, if_pos (by omega)]
      · rw [if_neg hx]
        by_cases h9 : (g * 3 + c) * 12 + (i + 1) ≤ x ∧ x < (g * 3 + c) * 12 + (i + 1) + m
        · rw [if_pos h9, if_pos (by omega)]
        · rw [if_neg h9, if_neg (by omega)]
    · rw [e12]
      by_cases hx : x = (g * 3 + c) * 12 + i
      · rw [if_neg (by omega), if_pos hx, if_pos (by omega)]
      · rw [if_neg hx]
        by_cases h9 : (g * 3 + c) * 12 + (i + 1) ≤ x ∧ x < (g * 3 + c) * 12 + (i + 1) + m
        · rw [if_pos h9, if_pos (by omega)]
        · rw [if_neg h9, if_neg (by omega)]
theorem gMv_out {g : Nat} {dx dy : Int32} {pm : Nat → Nat} (h12 : ∀ c, pm c ≤ 12) : ∀ (m i : Nat) (a : gST), (∀ k, k ≠ 10 → k ≠ 12 → (gLoop (gMvC g dx dy pm) i m a).1 k = a.1 k) ∧ (gLoop (gMvC g dx dy pm) i m a).2 = a.2 ∧
    (∀ c p, i ≤ c → c < i + m → p < pm c → (gLoop (gMvC g dx dy pm) i m a).1 10 ((g * 3 + c) * 12 + p) = a.1 10 ((g * 3 + c) * 12 + p) + dx ∧ (gLoop (gMvC g dx dy pm) i m a).1 12 ((g * 3 + c) * 12 + p) = a.1 12 ((g * 3 + c) * 12 + p) + dy) ∧
    ∀ x, (x < (g * 3 + i) * 12 ∨ (g * 3 + (i + m)) * 12 ≤ x) → (gLoop (gMvC g dx dy pm) i m a).1 10 x = a.1 10 x ∧ (gLoop (gMvC g dx dy pm) i m a).1 12 x = a.1 12 x
  | 0, i, a => ⟨fun _ _ _ => rfl, rfl, fun c p h1 h2 => by omega, fun x _ => ⟨rfl, rfl⟩⟩
  | m + 1, i, a => by
    obtain ⟨h1, h2, h3, h4⟩ := gMv_out (g := g) (dx := dx) (dy := dy) (pm := pm) h12 m (i + 1) (gMvC g dx dy pm i a)
    obtain ⟨g1, g2, g3⟩ := gMv_in (g := g) (c := i) (dx := dx) (dy := dy) (pm i) 0 a
    have hp := h12 i
    refine ⟨fun k q1 q2 => (h1 k q1 q2).trans (g1 k q1 q2), h2.trans g2, fun c p q1 q2 q3 => ?_, fun x hx => ?_⟩
    · have hpc := h12 c
      rcases Nat.eq_or_lt_of_le q1 with e | e
      · subst e
        obtain ⟨r1, r2⟩ := h4 ((g * 3 + i) * 12 + p) (Or.inl (by omega))
        refine ⟨r1.trans ((g3 _).1.trans ?_), r2.trans ((g3 _).2.trans ?_)⟩
        · rw [if_pos (by omega)]
        · rw [if_pos (by omega)]
      · obtain ⟨r1, r2⟩ := h3 c p e (by omega) q3
        refine ⟨r1.trans ?_, r2.trans ?_⟩
        · rw [show (gMvC g dx dy pm i a).1 10 ((g * 3 + c) * 12 + p) = _ from (g3 _).1, if_neg (by omega)]
        · rw [show (gMvC g dx dy pm i a).1 12 ((g * 3 + c) * 12 + p) = _ from (g3 _).2, if_neg (by omega)]
    · obtain ⟨r1, r2⟩ := h4 x (by omega)
      refine ⟨r1.trans ((g3 _).1.trans ?_), r2.trans ((g3 _).2.trans ?_)⟩
      · rw [if_neg (by omega)]
      · rw [if_neg (by omega)]
/-- the model's points moved -/
def mMq (i c p : Nat) : Nat := 196 + 96 * i + (5 + 2 * (12 * c + p))
def mMv (i c : Nat) (dx dy : Int32) (p : Nat) (a : gST) : gST := gPut (gPut a 377 (mMq i c p) (a.1 377 (mMq i c p) + dx)) 377 (mMq i c p + 1) ((gPut a 377 (mMq i c p) (a.1 377 (mMq i c p) + dx)).1 377 (mMq i c p + 1) + dy)
def mMvC (i : Nat) (dx dy : Int32) (pm : Nat → Nat) (c : Nat) (a : gST) : gST := gLoop (mMv i c dx dy) 0 (pm c) a
theorem mMv_1 (i c : Nat) (dx dy : Int32) (p : Nat) (a : gST) : (∀ k, k ≠ 377 → (mMv i c dx dy p a).1 k = a.1 k) ∧ (mMv i c dx dy p a).2 = a.2 ∧ ∀ x, (mMv i c dx dy p a).1 377 x = if x = mMq i c p then a.1 377 x + dx else if x = mMq i c p + 1 then a.1 377 x + dy else a.1 377 x := by
  refine ⟨fun k hk => ?_, rfl, fun x => ?_⟩
  · unfold mMv; rw [gPut_ne _ _ _ hk, gPut_ne _ _ _ hk]
  · unfold mMv
    rw [gPut_s, uN, gPut_s, uN, uN]
    by_cases h1 : x = mMq i c p
    · rw [if_neg (by omega), if_pos h1, if_pos h1, h1]
    · by_cases h2 : x = mMq i c p + 1
      · rw [if_pos h2, if_neg (by omega), if_neg h1, if_pos h2, h2]
      · rw [if_neg h2, if_neg h1, if_neg h1, if_neg h2]
theorem mMv_in {i c : Nat} {dx dy : Int32} : ∀ (m j : Nat) (a : gST), (∀ k, k ≠ 377 → (gLoop (mMv i c dx dy) j m a).1 k = a.1 k) ∧ (gLoop (mMv i c dx dy) j m a).2 = a.2 ∧ (∀ p, j ≤ p → p < j + m → (gLoop (mMv i c dx dy) j m a).1 377 (mMq i c p) = a.1 377 (mMq i c p) + dx ∧ (gLoop (mMv i c dx dy) j m a).1 377 (mMq i c p + 1) = a.1 377 (mMq i c p + 1) + dy) ∧
    ∀ x, (x < mMq i c j ∨ mMq i c (j + m) ≤ x) → (gLoop (mMv i c dx dy) j m a).1 377 x = a.1 377 x
  | 0, j, a => ⟨fun _ _ => rfl, rfl, fun p h1 h2 => by omega, fun x _ => rfl⟩
  | m + 1, j, a => by
    obtain ⟨h1, h2, h3, h4⟩ := mMv_in (i := i) (c := c) (dx := dx) (dy := dy) m (j + 1) (mMv i c dx dy j a)
    obtain ⟨g1, g2, g3⟩ := mMv_1 i c dx dy j a
    refine ⟨fun k hk => (h1 k hk).trans (g1 k hk), h2.trans g2, fun p q1 q2 => ?_, fun x hx => ?_⟩
    · rcases Nat.eq_or_lt_of_le q1 with e | e
      · subst e
        refine ⟨(h4 _ (Or.inl (by unfold mMq; omega))).trans ((g3 _).trans ?_), (h4 _ (Or.inl (by unfold mMq; omega))).trans ((g3 _).trans ?_)⟩
        · rw [if_pos rfl]
        · rw [if_neg (by omega), if_pos rfl]
      · obtain ⟨r1, r2⟩ := h3 p e (by omega)
        refine ⟨r1.trans ?_, r2.trans ?_⟩
        · rw [g3, if_neg (by unfold mMq; omega), if_neg (by unfold mMq; omega)]
        · rw [g3, if_neg (by unfold mMq; omega), if_neg (by unfold mMq; omega)]
    · refine (h4 x ?_).trans ((g3 x).trans ?_)
      · unfold mMq at hx ⊢; omega
      · unfold mMq at hx
        rw [if_neg (by unfold mMq; omega), if_neg (by unfold mMq; omega)]
theorem mMv_out {i : Nat} {dx dy : Int32} {pm : Nat → Nat} (h12 : ∀ c, pm c ≤ 12) : ∀ (m j : Nat) (a : gST), (∀ k, k ≠ 377 → (gLoop (mMvC i dx dy pm) j m a).1 k = a.1 k) ∧ (gLoop (mMvC i dx dy pm) j m a).2 = a.2 ∧ (∀ c p, j ≤ c → c < j + m → p < pm c → (gLoop (mMvC i dx dy pm) j m a).1 377 (mMq i c p) = a.1 377 (mMq i c p) + dx ∧ (gLoop (mMvC i dx dy pm) j m a).1 377 (mMq i c p + 1) = a.1 377 (mMq i c p + 1) + dy) ∧
    ∀ x, (x < mMq i j 0 ∨ mMq i (j + m) 0 ≤ x) → (gLoop (mMvC i dx dy pm) j m a).1 377 x = a.1 377 x
  | 0, j, a => ⟨fun _ _ => rfl, rfl, fun c p h1 h2 => by omega, fun x _ => rfl⟩
  | m + 1, j, a => by
    obtain ⟨h1, h2, h3, h4⟩ := mMv_out (i := i) (dx := dx) (dy := dy) (pm := pm) h12 m (j + 1) (mMvC i dx dy pm j a)
    obtain ⟨g1, g2, g3, g4⟩ := mMv_in (i := i) (c := j) (dx := dx) (dy := dy) (pm j) 0 a
    have hp := h12 j
    refine ⟨fun k hk => (h1 k hk).trans (g1 k hk), h2.trans g2, fun c p q1 q2 q3 => ?_, fun x hx => ?_⟩
    · have hpc := h12 c
      rcases Nat.eq_or_lt_of_le q1 with e | e
      · subst e
        obtain ⟨r1, r2⟩ := g3 p (Nat.zero_le _) (by omega)
        exact ⟨(h4 _ (Or.inl (by unfold mMq; omega))).trans r1, (h4 _ (Or.inl (by unfold mMq; omega))).trans r2⟩
      · obtain ⟨r1, r2⟩ := h3 c p e (by omega) q3
        exact ⟨r1.trans (congrArg (· + dx) (g4 _ (Or.inr (by unfold mMq; omega)))), r2.trans (congrArg (· + dy) (g4 _ (Or.inr (by unfold mMq; omega))))⟩
    · refine (h4 x ?_).trans (g4 x ?_)
      · unfold mMq at hx ⊢; omega
      · unfold mMq at hx ⊢; omega

theorem mt_shift {τ : gST} {σ : gST} {i : Nat} {dx dy : Int32} (hC : gCI τ) (hM : gMR τ (σ.1 377)) (hi : i < gNg τ) (hG : ∀ c p, c < gNc τ i → p < gNp τ i c → gMvG τ i dx dy c p) :
    gCI (gShW τ i dx dy) ∧ gMR (gShW τ i dx dy) ((gLoop (mMvC i dx dy (gNp τ i)) 0 (gNc τ i) σ).1 377) ∧ (∀ k, k ≠ 10 → k ≠ 12 → (gShW τ i dx dy).1 k = (gRem τ).1 k) := by
  have hW := hC.dw
  have h24 := hW.ng24
  have hc3 := hW.nc3 (g := i) (by omega)
  obtain ⟨pm, hpm⟩ : ∃ pm : Nat → Nat, pm = fun c => if c < 3 then gNp τ i c else 0 := ⟨_, rfl⟩
  have h12 : ∀ c, pm c ≤ 12 := fun c => by
    rw [hpm]
    dsimp only
    split
    · exact hW.np12 (by omega) (by assumption)
    · omega
  have ep : ∀ c, c < gNc τ i → pm c = gNp τ i c := fun c hc => by rw [hpm]; exact if_pos (by omega)
  have eA : gShW τ i dx dy = gLoop (gMvC i dx dy pm) 0 (gNc τ i) (gRem τ) := by
    unfold gShW
    refine gLoop_congr _ _ _ (fun c _ hc b => ?_)
    unfold gMvC
    rw [ep c (by omega)]
  have eB : gLoop (mMvC i dx dy (gNp τ i)) 0 (gNc τ i) σ = gLoop (mMvC i dx dy pm) 0 (gNc τ i) σ := by
    refine gLoop_congr _ _ _ (fun c _ hc b => ?_)
    unfold mMvC
    rw [ep c (by omega)]
  rw [eA, eB]
  obtain ⟨a1, a2, a3, a4⟩ := gMv_out (g := i) (dx := dx) (dy := dy) (pm := pm) h12 (gNc τ i) 0 (gRem τ)
  obtain ⟨b1, b2, b3, b4⟩ := mMv_out (i := i) (dx := dx) (dy := dy) (pm := pm) h12 (gNc τ i) 0 σ
  have hCr := gRem_ci hC
  have hMr := gRem_mr hC hM
  have eR : ∀ k, k < 36 → (gRem τ).1 k = τ.1 k := gRem_D τ
  generalize gLoop (gMvC i dx dy pm) 0 (gNc τ i) (gRem τ) = τ' at *
  generalize gLoop (mMvC i dx dy pm) 0 (gNc τ i) σ = σ' at *
  have ho : ∀ k, 1 ≤ k → k < 36 → k ≠ 6 → k ≠ 8 → k ≠ 10 → k ≠ 12 → τ'.1 k = (gRem τ).1 k := fun k _ _ _ _ q3 q4 => a1 k q3 q4
  have eng : gNg τ' = gNg τ := by unfold gNg; rw [a1 2 (by decide) (by decide), eR 2 (by decide)]
  have enc : ∀ g, gNc τ' g = gNc τ g := fun g => by unfold gNc; rw [a1 6 (by decide) (by decide), eR 6 (by decide)]
  have enp : ∀ g c, gNp τ' g c = gNp τ g c := fun g c => by unfold gNp; rw [a1 8 (by decide) (by decide), eR 8 (by decide)]
  have hoth : ∀ g c p, g ≠ i → g < 24 → c < 3 → p < 12 → τ'.1 10 ((g * 3 + c) * 12 + p) = τ.1 10 ((g * 3 + c) * 12 + p) ∧ τ'.1 12 ((g * 3 + c) * 12 + p) = τ.1 12 ((g * 3 + c) * 12 + p) := fun g c p q1 q2 q3 q4 => by
    obtain ⟨r1, r2⟩ := a4 ((g * 3 + c) * 12 + p) (by omega)
    exact ⟨r1.trans (congrFun (eR 10 (by decide)) _), r2.trans (congrFun (eR 12 (by decide)) _)⟩
  have hnew : ∀ c p, c < gNc τ i → p < gNp τ i c → τ'.1 10 ((i * 3 + c) * 12 + p) = τ.1 10 ((i * 3 + c) * 12 + p) + dx ∧ τ'.1 12 ((i * 3 + c) * 12 + p) = τ.1 12 ((i * 3 + c) * 12 + p) + dy := fun c p hc hp => by
    obtain ⟨r1, r2⟩ := a3 c p (Nat.zero_le _) (by omega) (by rw [ep c hc]; exact hp)
    rw [eR 10 (by decide)] at r1
    rw [eR 12 (by decide)] at r2
    exact ⟨r1, r2⟩
  refine ⟨hCr.con ho (by rw [a1 6 (by decide) (by decide)]; exact hCr.dw.2.1) (by rw [a1 8 (by decide) (by decide)]; exact hCr.dw.2.2.1) ⟨?_, ?_⟩ (by rw [a1 6 (by decide) (by decide)]; exact fun g h1 h2 => (hCr.gw.2 g h1 h2).1),
    hMr.con (i := i) hCr.dw (by rw [gRem_ng]; exact hi) ho (fun g _ _ => congrFun (a1 6 (by decide) (by decide)) _) (fun g c _ _ _ => congrFun (a1 8 (by decide) (by decide)) _) (fun g x hg hg2 hx => ?_) (fun x hx => ?_) ?_ ?_ ?_, a1⟩
  · rw [eng]
    intro g c hg hc
    rw [enc] at hc
    rw [enp]
    exact hC.po.1 g c hg hc
  · rw [eng]
    intro g c p hg hc hp
    rw [enc] at hc
    rw [enp] at hp
    have hcg := hW.nc3 (g := g) (by omega)
    have hpg := hW.np12 (g := g) (c := c) (by omega) (by omega)
    by_cases hgi : g = i
    · subst hgi
      obtain ⟨r1, r2⟩ := hnew c p hc hp
      have hq := hG c p hc hp
      rw [r1, r2, gCo_i hq.1, gCo_i hq.2]
      exact hq
    · obtain ⟨r1, r2⟩ := hoth g c p hgi (by omega) (by omega) (by omega)
      rw [r1, r2]
      exact hC.po.2 g c p hg hc hp
  · exact a4 _ (by omega)
  · exact b4 x (by unfold mMq; omega)
  · rw [b4 _ (by unfold mMq; omega), a1 6 (by decide) (by decide), eR 6 (by decide)]; exact hM.nc0 hi rfl
  · rw [enc]
    intro c hc
    rw [b4 _ (by unfold mMq; omega), a1 8 (by decide) (by decide), eR 8 (by decide)]; exact hM.np0 hi hc rfl
  · rw [enc]
    intro c p hc hp
    rw [enp] at hp
    obtain ⟨r1, r2⟩ := hnew c p hc hp
    obtain ⟨s1, s2⟩ := b3 c p (Nat.zero_le _) (by omega) (by rw [ep c hc]; exact hp)
    rw [r1, r2]
    refine ⟨s1.trans ?_, s2.trans ?_⟩
    · rw [show mMq i c p = 196 + 96 * i + (5 + 2 * (12 * c + p)) from rfl, hM.px hi hc hp rfl]
    · rw [show mMq i c p + 1 = 196 + 96 * i + (5 + 2 * (12 * c + p)) + 1 from rfl, hM.py hi hc hp rfl]
