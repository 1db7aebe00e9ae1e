/-- the class's parser where a point of the contour K begins -/
def pCB (a : gST) (K : Nat) (N : Nat → Nat) (b : Bool) (rd : Nat → Int32) : Prop := a.1 356 8 = 0 ∧ a.1 356 7 = nI (N K) ∧ a.1 356 5 = nI K ∧ a.1 356 6 = nI (pOf N (K + 1)) ∧ (∀ c, c < K → a.1 362 c = nI (N c)) ∧ pDR a K N b rd
theorem bF_i {q K : Nat} {b : Bool} : bF q K b false = true ↔ (b = true ∨ 12 ≤ q ∨ 3 ≤ K) := by
  unfold bF fF
  by_cases h1 : q < 12 ∧ K < 3
  · rw [if_pos h1]
    constructor
    · intro h
      split at h
      · rename_i h2
        rcases h2 with h2 | h2
        · exact Or.inl h2
        · exact absurd h2.1 (by decide)
      · cases h
    · rintro (h | h | h)
      · exact if_pos (Or.inl h)
      · omega
      · omega
  · rw [if_neg h1]
    exact ⟨fun _ => Or.inr (by omega), fun _ => if_pos (Or.inr ⟨rfl, rfl⟩)⟩
theorem cB_i {t : Nat → Int32} {n p : Nat} {w b : Bool} (h : cW1 t n p w = false) : cB t n p w b = true ↔ (b = true ∨ ¬ (-200 ≤ (cV t n p w).toInt ∧ (cV t n p w).toInt ≤ 1200)) := by
  have h1 : ¬ cW1 t n p w = true := fun h9 => by rw [h] at h9; cases h9
  rw [show cB t n p w b = _ from if_neg h1, show cV t n p w = cVs t n p w from if_neg h1]
  constructor
  · intro h2
    split at h2
    · assumption
    · cases h2
  · intro h2
    exact if_pos h2
theorem rLp_w {t : Nat → Int32} {n K f q p : Nat} {b : Bool} {rd : Nat → Int32} (hq : 0 < q) (h : ¬ hr t n p = 32) : (rLp t n K (f + 1) q p b rd).2.1 = p ∧ (rLp t n K (f + 1) q p b rd).2.2.1 = true := by
  have e1 : rS1 t n q p = (p, true) := by
    unfold rS1
    rw [if_pos hq, (wW_f h).1, (wW_f h).2]
  have e2 : rP2 t n q p = p ∧ rW2 t n q p = true := by unfold rP2 rW2; rw [e1]; exact ⟨cP_t, cW1_t⟩
  have e3 : rP3 t n q p = p ∧ rW3 t n q p = true := by unfold rP3 rW3; rw [e2.1, e2.2]; exact ⟨wP_t, wW_t⟩
  have e4 : rP4 t n q p = p ∧ rW4 t n q p = true := by unfold rP4 rW4; rw [e3.1, e3.2]; exact ⟨cP_t, cW1_t⟩
  rw [rLp_n (fun h9 => by rw [e4.2] at h9; exact absurd h9.1 (by decide))]
  exact ⟨e4.1, e4.2⟩
/-- the points of a contour in both parsers -/
theorem cLp {t : Nat → Int32} {n K : Nat} (h60 : n ≤ 60) (hK : K < 1000) : ∀ (f q p : Nat) (b : Bool) (rd : Nat → Int32) (a : gST) (N : Nat → Nat), n < p + f → p ≤ n → N K = q → pOf N (K + 1) ≤ p → (rS1 t n q p).2 = false → a.1 356 3 = 2 → a.1 356 9 = 0 → pCB a K N b rd →
    ((rLp t n K f q p b rd).2.2.1 = true → (pF t n (rS1 t n q p).1 a).1 = nI (rLp t n K f q p b rd).2.1) ∧
    ((rLp t n K f q p b rd).2.2.1 = false → hr t n (rLp t n K f q p b rd).2.1 = 41 ∧ ∃ a' N', pF t n (rS1 t n q p).1 a = pF t n ((rLp t n K f q p b rd).2.1 + 1) a' ∧ a'.1 356 3 = 5 ∧ a'.1 356 5 = nI (K + 1) ∧ a'.1 356 6 = nI (pOf N' (K + 1)) ∧ pOf N' (K + 1) ≤ (rLp t n K f q p b rd).2.1 ∧
      N' K = (rLp t n K f q p b rd).1 ∧ (∀ c, c < K → N' c = N c) ∧ (∀ c, c < K + 1 → a'.1 362 c = nI (N' c)) ∧ pDR a' K N' (rLp t n K f q p b rd).2.2.2.1 (rLp t n K f q p b rd).2.2.2.2 ∧ a'.1 356 4 = a.1 356 4) := by
  intro f
  induction f with
  | zero => intro q p b rd a N h1 h2; exact absurd h1 (by omega)
  | succ f ih =>
    intro q p b rd a N h1 hp hN hm hS h3 h9 hB
    obtain ⟨h8, h7, h5, h6, h362, hD⟩ := hB
    obtain ⟨g1, g2, g3⟩ := rP4_le (t := t) (q := q) hp
    have hs := (rS1_le (t := t) (q := q) hp).2
    rw [hN] at h7
    have hq : q ≤ 60 := by
      have : pOf N (K + 1) = pOf N K + N K := rfl
      omega
    obtain ⟨c1, c2⟩ := cPt (t := t) (n := n) (p := (rS1 t n q p).1) (p2 := rP2 t n q p) (p3 := rP3 t n q p) (p4 := rP4 t n q p) (w2 := rW2 t n q p) (w3 := rW3 t n q p) (w4 := rW4 t n q p) (x := rPx t n q p) (y := cV t n (rP3 t n q p) (rW3 t n q p)) (a := a) hs h3 h9 h8
      (by unfold rP2; rw [hS]) (by unfold rW2; rw [hS]) (by unfold rPx; rw [hS]) rfl rfl rfl rfl rfl
    cases hw : rW4 t n q p with
    | true =>
      rw [rLp_n (fun h9 => by rw [hw] at h9; exact absurd h9.1 (by decide))]
      dsimp only
      rw [hw]
      exact ⟨fun _ => c1 hw, fun h => absurd h (by decide)⟩
    | false =>
      have g3 := g3 hw
      obtain ⟨a1, e1, e2, e3, e4, e5, e6, e7, e8, e9, e10⟩ := c2 hw
      have hw3 : rW3 t n q p = false := cW1_w hw
      have hw2 : rW2 t n q p = false := by
        cases hh : rW2 t n q p with
        | false => rfl
        | true =>
          have : rW3 t n q p = true := by unfold rW3; rw [hh]; exact wW_t
          rw [this] at hw3; cases hw3
      have a17 : a1.1 356 7 = nI q := (e9 7 (by decide) (by decide) (by decide) (by decide) (by decide)).trans h7
      have a15 : a1.1 356 5 = nI K := (e9 5 (by decide) (by decide) (by decide) (by decide) (by decide)).trans h5
      have a16 : a1.1 356 6 = nI (pOf N (K + 1)) := (e9 6 (by decide) (by decide) (by decide) (by decide) (by decide)).trans h6
      have a14 : a1.1 356 4 = a.1 356 4 := e9 4 (by decide) (by decide) (by decide) (by decide) (by decide)
      have hna : nA (a.1 356 6) = pOf N (K + 1) := by rw [h6]; exact nA_nI (by omega)
      have hna1 : nA (a1.1 356 6) = pOf N (K + 1) := by rw [a16]; exact nA_nI (by omega)
      rw [hna] at e7
      obtain ⟨z1, z2, z3⟩ := cZ (t := t) (n := n) (p := rP4 t n q p) (q := q) (K := K) (a := a1) e2 e3 e4 e6 a17 a15 (by omega) hK
      have hpo : pOf (nU N K (q + 1)) (K + 1) = pOf N (K + 1) + 1 := by
        show pOf (nU N K (q + 1)) K + nU N K (q + 1) K = pOf N K + N K + 1
        rw [pOf_u K (Nat.le_refl _), nU_s, hN]
        omega
      have hbb : bF q K (rB4 t n q p b) (rW4 t n q p) = true ↔ (b = true ∨ bad2 (rPx t n q p) (rPy t n q p) K q) := by
        have hb2 : rB2 t n q p b = true ↔ _ := cB_i (b := b) (show cW1 t n (rS1 t n q p).1 (rS1 t n q p).2 = false from hw2)
        have hb4 : rB4 t n q p b = true ↔ _ := cB_i (b := rB2 t n q p b) (show cW1 t n (rP3 t n q p) (rW3 t n q p) = false from hw)
        rw [hw, bF_i, hb4, hb2]
        unfold bad2 rPx rPy
        constructor
        · rintro (((h | h) | h) | h | h)
          · exact Or.inl h
          · exact Or.inr (Or.inl h)
          · exact Or.inr (Or.inr (Or.inl h))
          · exact Or.inr (Or.inr (Or.inr (Or.inl h)))
          · exact Or.inr (Or.inr (Or.inr (Or.inr h)))
        · rintro (h | h | h | h | h)
          · exact Or.inl (Or.inl (Or.inl h))
          · exact Or.inl (Or.inl (Or.inr h))
          · exact Or.inl (Or.inr h)
          · exact Or.inr (Or.inl h)
          · exact Or.inr (Or.inr h)
      have e360 : a1.1 360 = a.1 360 := e8 360 (by decide) (by decide)
      have e362 : a1.1 362 = a.1 362 := e8 362 (by decide) (by decide)
      have hadd : ∀ a2 : gST, a2.1 358 = a1.1 358 → a2.1 360 = upd (a1.1 360) (pOf N (K + 1)) (rPy t n q p) → pDR a2 K (nU N K (q + 1)) (bF q K (rB4 t n q p b) (rW4 t n q p)) (rD q K (rPx t n q p) (rPy t n q p) rd) :=
        fun a2 i1 i2 => pDR_add hD hN (i1.trans e7) (i2.trans (by rw [e360])) hbb
      have esv : gSv a1 = rPy t n q p := e5
      cases hmf : mF t n q (rP4 t n q p) with
      | false =>
        rw [rLp_n (fun h9 => by rw [hmf] at h9; exact absurd h9.2 (by decide))]
        dsimp only
        obtain ⟨z4, z5⟩ := z1 hmf
        refine ⟨fun h => absurd h (by rw [hw]; decide), fun _ => ⟨?_, cCl a1 K q, nU N K (q + 1), e1.trans z5, ?_, ?_, ?_, ?_, nU_s _ _ _, fun c hc => nU_n _ _ (by omega), fun c hc => ?_, hadd _ ?_ ?_, ?_⟩⟩
        · unfold mF at hmf
          split at hmf
          · cases hmf
          · rename_i hh
            exact Classical.not_not.mp (fun h9 => hh (Or.inr h9))
        · unfold cCl; rw [gPut_at, if_pos ⟨rfl, rfl⟩]
        · unfold cCl; rw [gPut_at, if_neg (by decide), gPut_at, if_pos ⟨rfl, rfl⟩]
        · unfold cCl gApW
          simp [gPut_at]
          rw [a16, nI_1, hpo]
        · rw [hpo]; omega
        · unfold cCl gApW
          rw [gPut_ne _ _ _ (by decide), gPut_ne _ _ _ (by decide), gPut_s, uN, gPut_ne _ _ _ (by decide), gPut_ne _ _ _ (by decide), gPut_ne _ _ _ (by decide), e362]
          by_cases hcK : c = K
          · rw [if_pos hcK, hcK, nU_s]
          · rw [if_neg hcK, nU_n _ _ hcK]; exact h362 c (by omega)
        · unfold cCl gApW
          rw [gPut_ne _ _ _ (by decide), gPut_ne _ _ _ (by decide), gPut_ne _ _ _ (by decide), gPut_ne _ _ _ (by decide), gPut_ne _ _ _ (by decide), gPut_ne _ _ _ (by decide)]
        · unfold cCl gApW
          rw [gPut_ne _ _ _ (by decide), gPut_ne _ _ _ (by decide), gPut_ne _ _ _ (by decide), gPut_ne _ _ _ (by decide), gPut_ne _ _ _ (by decide), gPut_s, hna1, esv]
        · unfold cCl gApW
          simp [gPut_at]
          exact a14
      | true =>
        rw [rLp_y ⟨hw, hmf⟩]
        by_cases h32 : hr t n (rP4 t n q p) = 32
        · obtain ⟨z4, z5⟩ := z2 hmf h32
          have eS : rS1 t n (q + 1) (rP4 t n q p) = (rP4 t n q p + 1, false) := by
            unfold rS1
            rw [if_pos (by omega), (wW_y h32).1, (wW_y h32).2]
          have := ih (q + 1) (rP4 t n q p) (bF q K (rB4 t n q p b) (rW4 t n q p)) (rD q K (rPx t n q p) (rPy t n q p) rd) (cNx a1) (nU N K (q + 1)) (by omega) g2 (nU_s _ _ _) (by rw [hpo]; omega) (by rw [eS])
            (by unfold cNx gBc; simp [gPut_at]) (by unfold cNx gBc; simp [gPut_at])
            ⟨by unfold cNx gBc; simp [gPut_at], by rw [nU_s]; unfold cNx gBc gApW; simp [gPut_at]; rw [a17, nI_1], by unfold cNx gBc gApW; simp [gPut_at]; exact a15, by unfold cNx gBc gApW; simp [gPut_at]; rw [a16, nI_1, hpo], fun c hc => by
              unfold cNx gBc gApW
              simp [gPut_at]
              rw [nU_n _ _ (by omega), e362]
              exact h362 c hc, hadd _ (by unfold cNx gBc gApW; rw [gPut_ne _ _ _ (by decide), gPut_ne _ _ _ (by decide), gPut_ne _ _ _ (by decide), gPut_ne _ _ _ (by decide), gPut_ne _ _ _ (by decide), gPut_ne _ _ _ (by decide)]) (by
              unfold cNx gBc gApW
              rw [gPut_ne _ _ _ (by decide), gPut_ne _ _ _ (by decide), gPut_ne _ _ _ (by decide), gPut_ne _ _ _ (by decide), gPut_ne _ _ _ (by decide), gPut_s, hna1, esv])⟩
          rw [eS] at this
          rw [e1, z5]
          obtain ⟨t1, t2⟩ := this
          refine ⟨t1, fun hh => ?_⟩
          obtain ⟨u1, a', N', u2, u3, u4, u5, u6, u7, u8, u9, u10, u11⟩ := t2 hh
          refine ⟨u1, a', N', u2, u3, u4, u5, u6, u7, fun c hc => (u8 c hc).trans (nU_n _ _ (by omega)), u9, u10, u11.trans ?_⟩
          unfold cNx gBc gApW
          simp [gPut_at]
          exact a14
        · obtain ⟨f', hf'⟩ : ∃ f', f = f' + 1 := ⟨f - 1, by omega⟩
          subst hf'
          obtain ⟨r1, r2⟩ := rLp_w (K := K) (f := f') (b := bF q K (rB4 t n q p b) (rW4 t n q p)) (rd := rD q K (rPx t n q p) (rPy t n q p) rd) (show 0 < q + 1 by omega) h32
          rw [r1, r2, e1]
          exact ⟨fun _ => z3 hmf h32, fun h => absurd h (by decide)⟩
