/-- closed contours: what the class and the model have read -/
def pDC (a : gST) (K : Nat) (N : Nat → Nat) (b : Bool) (rd : Nat → Int32) : Prop :=
  (∀ c p, c < K → p < N c → c < 3 → p < 12 → rd (2 * (12 * c + p)) = a.1 358 (pOf N c + p) ∧ rd (2 * (12 * c + p) + 1) = a.1 360 (pOf N c + p)) ∧
  (b = true ↔ ∃ c p, c < K ∧ p < N c ∧ bad2 (a.1 358 (pOf N c + p)) (a.1 360 (pOf N c + p)) c p)
theorem pDR.c {a : gST} {K : Nat} {N : Nat → Nat} {b : Bool} {rd : Nat → Int32} (h : pDR a K N b rd) : pDC a (K + 1) N b rd :=
  ⟨fun c p q1 => h.1 c p (by omega), h.2.trans ⟨fun ⟨c, p, q1, q⟩ => ⟨c, p, by omega, q⟩, fun ⟨c, p, q1, q⟩ => ⟨c, p, by omega, q⟩⟩⟩
theorem pDC.o {a a' : gST} {K : Nat} {N : Nat → Nat} {b : Bool} {rd : Nat → Int32} (h : pDC a K N b rd) (hx : a'.1 358 = a.1 358) (hy : a'.1 360 = a.1 360) : pDR a' K (nU N K 0) b rd := by
  have cas : ∀ c p, c ≤ K → p < nU N K 0 c → c < K ∧ p < N c := fun c p q1 q2 => by
    by_cases hc : c = K
    · rw [hc, nU_s] at q2; omega
    · rw [nU_n _ _ hc] at q2; exact ⟨by omega, q2⟩
  refine ⟨fun c p q1 q2 q3 q4 => ?_, h.2.trans ⟨fun ⟨c, p, q1, q2, q3⟩ => ⟨c, p, by omega, ?_, ?_⟩, fun ⟨c, p, q1, q2, q3⟩ => ?_⟩⟩
  · rw [hx, hy, pOf_u c q1]
    exact h.1 c p (cas c p q1 q2).1 (cas c p q1 q2).2 q3 q4
  · rw [nU_n _ _ (by omega)]; exact q2
  · rw [hx, hy, pOf_u c (by omega)]; exact q3
  · rw [hx, hy, pOf_u c q1] at q3
    exact ⟨c, p, (cas c p q1 q2).1, (cas c p q1 q2).2, q3⟩
theorem rLp_q {t : Nat → Int32} {n K : Nat} : ∀ (f q p : Nat) (b : Bool) (rd : Nat → Int32), q ≤ (rLp t n K f q p b rd).1 ∧ (0 < f → 0 < (rLp t n K f q p b rd).1) := by
  intro f
  induction f with
  | zero => intro q p b rd; exact ⟨Nat.le_refl _, fun h => absurd h (Nat.lt_irrefl _)⟩
  | succ f ih =>
    intro q p b rd
    by_cases h : rW4 t n q p = false ∧ mF t n q (rP4 t n q p) = true
    · rw [rLp_y h]
      have := (ih (q + 1) (rP4 t n q p) (bF q K (rB4 t n q p b) (rW4 t n q p)) (rD q K (rPx t n q p) (rPy t n q p) rd)).1
      omega
    · rw [rLp_n h]
      exact ⟨Nat.le_succ _, fun _ => Nat.succ_pos _⟩
theorem cGl {t : Nat → Int32} {n : Nat} (h60 : n ≤ 60) : ∀ (f K p : Nat) (b : Bool) (rd rm : Nat → Int32) (a : gST) (N : Nat → Nat), n < p + f → p ≤ n → K ≤ p → (a.1 356 3 = 1 ∧ K = 0 ∨ a.1 356 3 = 5 ∧ ¬ K = 0) → a.1 356 5 = nI K → a.1 356 6 = nI (pOf N K) → pOf N K ≤ p →
    (∀ c, c < K → a.1 362 c = nI (N c)) → pDC a K N b rd → (∀ c, c < K → c < 3 → rm c = rM (N c)) → (∀ c, c < K → 0 < N c) →
    ((gLp t n f K p b rd rm).2.2.1 = true → (pF t n p a).1 = nI (gLp t n f K p b rd rm).2.1) ∧
    ((gLp t n f K p b rd rm).2.2.1 = false → ∃ a' N', pF t n p a = (-1, a') ∧ (gLp t n f K p b rd rm).1 ≤ 60 ∧ a'.1 356 5 = nI (gLp t n f K p b rd rm).1 ∧ a'.1 356 6 = nI (pOf N' (gLp t n f K p b rd rm).1) ∧ pOf N' (gLp t n f K p b rd rm).1 ≤ 60 ∧
      (∀ c, c < (gLp t n f K p b rd rm).1 → a'.1 362 c = nI (N' c)) ∧ pDC a' (gLp t n f K p b rd rm).1 N' (gLp t n f K p b rd rm).2.2.2.1 (gLp t n f K p b rd rm).2.2.2.2.1 ∧
      (∀ c, c < (gLp t n f K p b rd rm).1 → c < 3 → (gLp t n f K p b rd rm).2.2.2.2.2 c = rM (N' c)) ∧ (∀ c, c < (gLp t n f K p b rd rm).1 → 0 < N' c) ∧ a'.1 356 4 = a.1 356 4) := by
  intro f
  induction f with
  | zero => intro K p b rd rm a N h1 h2; exact absurd h1 (by omega)
  | succ f ih =>
    intro K p b rd rm a N h1 hp hKp h3 h5 h6 hm h362 hD hrm hz
    by_cases hc : K = 0 ∨ p < n
    · by_cases h40 : hr t n p = 40
      · obtain ⟨o1, o2⟩ := (cOp (a := a) hp (h3.elim (fun h => Or.inl h.1) (fun h => Or.inr h.1))).2 h40
        have eR : rRes t n K p b rd = rLp t n K 61 0 (p + 1) b rd := if_neg (fun h9 => by rw [(wW_y h40).1] at h9; cases h9)
        have eS : rS1 t n 0 (p + 1) = (p + 1, false) := if_neg (Nat.lt_irrefl 0)
        have hpo : pOf (nU N K 0) (K + 1) = pOf N K := by
          show pOf (nU N K 0) K + nU N K 0 K = _
          rw [pOf_u K (Nat.le_refl _), nU_s]
          rfl
        obtain ⟨l1, l2⟩ := cLp (t := t) (n := n) (K := K) h60 (by omega) 61 0 (p + 1) b rd (gBc (gPut a 356 7 0) 0) (nU N K 0) (by omega) o1 (nU_s _ _ _) (by rw [hpo]; omega) (by rw [eS])
          (by unfold gBc; simp [gPut_at]) (by unfold gBc; simp [gPut_at])
          ⟨by unfold gBc; simp [gPut_at], by rw [nU_s]; unfold gBc; simp [gPut_at]; rfl, by unfold gBc; simp [gPut_at]; exact h5, by rw [hpo]; unfold gBc; simp [gPut_at]; exact h6, fun c hc => by
            unfold gBc
            simp [gPut_at]
            rw [nU_n _ _ (by omega)]
            exact h362 c hc, hD.o (by unfold gBc; rw [gPut_ne _ _ _ (by decide), gPut_ne _ _ _ (by decide), gPut_ne _ _ _ (by decide), gPut_ne _ _ _ (by decide)]) (by unfold gBc; rw [gPut_ne _ _ _ (by decide), gPut_ne _ _ _ (by decide), gPut_ne _ _ _ (by decide), gPut_ne _ _ _ (by decide)])⟩
        rw [eS] at l1 l2
        rw [o2]
        have hle := rLp_le (t := t) (n := n) (K := K) 61 0 (p + 1) b rd o1
        cases hw : (rLp t n K 61 0 (p + 1) b rd).2.2.1 with
        | true =>
          have ew : rEw t n K p b rd = true := by unfold rEw; rw [eR, hw]; exact wW_t
          have ep : rEp t n K p b rd = (rLp t n K 61 0 (p + 1) b rd).2.1 := by unfold rEp; rw [eR, hw]; exact wP_t
          rw [gLp_w hc ew]
          dsimp only
          rw [ep]
          exact ⟨fun _ => l1 hw, fun h => absurd h (by decide)⟩
        | false =>
          obtain ⟨h41, a', N', u2, u3, u4, u5, u6, u7, u8, u9, u10, u11⟩ := l2 hw
          have hlt := hr_lt h41 (by decide)
          have ew : rEw t n K p b rd = false := by unfold rEw; rw [eR, hw]; exact (wW_y h41).1
          have ep : rEp t n K p b rd = (rLp t n K 61 0 (p + 1) b rd).2.1 + 1 := by unfold rEp; rw [eR, hw]; exact (wW_y h41).2
          rw [gLp_s hc ew, ep, eR, u2]
          obtain ⟨t1, t2⟩ := ih (K + 1) ((rLp t n K 61 0 (p + 1) b rd).2.1 + 1) (rLp t n K 61 0 (p + 1) b rd).2.2.2.1 (rLp t n K 61 0 (p + 1) b rd).2.2.2.2 (rmU K (rLp t n K 61 0 (p + 1) b rd).1 rm) a' N' (by omega) (by omega) (by omega) (Or.inr ⟨u3, by omega⟩) u4 u5 (by omega) u9 u10.c (fun c hc1 hc3 => by
            unfold rmU
            by_cases hcK : c = K
            · subst hcK
              rw [if_pos hc3, uN, if_pos rfl, u7]
            · have e := hrm c (by omega) hc3
              rw [u8 c (by omega), nU_n _ _ hcK, ← e]
              split
              · rw [uN, if_neg hcK]
              · rfl) (fun c hc1 => by
            by_cases hcK : c = K
            · rw [hcK, u7]; exact (rLp_q 61 0 (p + 1) b rd).2 (by decide)
            · rw [u8 c (by omega), nU_n _ _ hcK]; exact hz c (by omega))
          refine ⟨t1, fun hh => ?_⟩
          obtain ⟨a2, N2, v1, v2, v3, v4, v5, v6, v7, v8, vz, v9⟩ := t2 hh
          refine ⟨a2, N2, v1, v2, v3, v4, v5, v6, v7, v8, vz, v9.trans (u11.trans ?_)⟩
          unfold gBc
          simp [gPut_at]
      · have eR : rRes t n K p b rd = (0, p, true, b, rd) := if_pos (wW_f h40).1
        have ew : rEw t n K p b rd = true := by unfold rEw; rw [eR]; exact wW_t
        have ep : rEp t n K p b rd = p := by unfold rEp; rw [eR]; exact wP_t
        rw [gLp_w hc ew]
        dsimp only
        rw [ep]
        refine ⟨fun _ => ?_, fun h => absurd h (by decide)⟩
        by_cases hpn : p < n
        · exact (cOp (a := a) hp (h3.elim (fun h => Or.inl h.1) (fun h => Or.inr h.1))).1 hpn h40
        · have hK0 : K = 0 := hc.resolve_right hpn
          rw [pF_e (by omega)]
          show (if a.1 356 3 = 5 then (-1 : Int32) else nI p) = nI p
          rcases h3 with h3 | h3
          · rw [h3.1]; exact if_neg (by decide)
          · exact absurd hK0 h3.2
    · rw [gLp_e hc]
      dsimp only
      refine ⟨fun h => absurd h (by decide), fun _ => ⟨a, N, ?_, by omega, h5, h6, by omega, h362, hD, hrm, hz, rfl⟩⟩
      have h35 : a.1 356 3 = 5 := h3.elim (fun h => absurd (Or.inl h.2) hc) (fun h => h.1)
      rw [pF_e (by omega), h35]
      rfl
