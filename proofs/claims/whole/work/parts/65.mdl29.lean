def nU (f : Nat → Nat) (k v : Nat) : Nat → Nat := fun j => if j = k then v else f j
theorem nU_s (f : Nat → Nat) (k v : Nat) : nU f k v k = v := if_pos rfl
theorem nU_n (f : Nat → Nat) {k j : Nat} (v : Nat) (h : j ≠ k) : nU f k v j = f j := if_neg h
/-- a word begins -/
abbrev pNew (τ : gST) (i : Nat) : Prop := i = 0 ∨ pP τ (i - 1) = none
/-- the words among the first i entries: how many, where they begin, how long -/
def pW (τ : gST) : Nat → Nat × (Nat → Nat) × (Nat → Nat)
  | 0 => (0, fun _ => 0, fun _ => 0)
  | i + 1 => match pP τ i with
    | none => pW τ i
    | some _ => if pNew τ i then ((pW τ i).1 + 1, nU (pW τ i).2.1 (pW τ i).1 i, nU (pW τ i).2.2 (pW τ i).1 1)
      else ((pW τ i).1, (pW τ i).2.1, nU (pW τ i).2.2 ((pW τ i).1 - 1) ((pW τ i).2.2 ((pW τ i).1 - 1) + 1))
theorem pW_n {τ : gST} {i : Nat} (h : pP τ i = none) : pW τ (i + 1) = pW τ i := by rw [pW, h]
theorem pW_b {τ : gST} {i g : Nat} (h : pP τ i = some g) (h2 : pNew τ i) : pW τ (i + 1) = ((pW τ i).1 + 1, nU (pW τ i).2.1 (pW τ i).1 i, nU (pW τ i).2.2 (pW τ i).1 1) := by rw [pW, h]; exact if_pos h2
theorem pW_c {τ : gST} {i g : Nat} (h : pP τ i = some g) (h2 : ¬ pNew τ i) : pW τ (i + 1) = ((pW τ i).1, (pW τ i).2.1, nU (pW τ i).2.2 ((pW τ i).1 - 1) ((pW τ i).2.2 ((pW τ i).1 - 1) + 1)) := by rw [pW, h]; exact if_neg h2
def pWI (τ : gST) (i : Nat) : Prop := (pW τ i).1 ≤ i ∧ (∀ w, w < (pW τ i).1 → 1 ≤ (pW τ i).2.2 w ∧ (pW τ i).2.1 w + (pW τ i).2.2 w ≤ i) ∧ (¬ pNew τ i → 1 ≤ (pW τ i).1 ∧ (pW τ i).2.1 ((pW τ i).1 - 1) + (pW τ i).2.2 ((pW τ i).1 - 1) = i)
theorem pW_I (τ : gST) : ∀ i, pWI τ i
  | 0 => ⟨Nat.le_refl 0, fun w hw => absurd hw (Nat.not_lt_zero _), fun h => absurd (Or.inl rfl) h⟩
  | i + 1 => by
    obtain ⟨h1, h2, h3⟩ := pW_I τ i
    unfold pWI
    have hnew : pNew τ (i + 1) ↔ pP τ i = none := ⟨fun h => h.elim (fun h9 => absurd h9 (by omega)) id, fun h => Or.inr h⟩
    rw [hnew]
    cases hc : pP τ i with
    | none =>
      rw [pW_n hc]
      exact ⟨by omega, fun w hw => by have := h2 w hw; omega, fun h => absurd rfl h⟩
    | some g =>
      by_cases hb : pNew τ i
      · rw [pW_b hc hb]
        refine ⟨by show _ + 1 ≤ _; omega, fun w hw => ?_, fun _ => ⟨by show 1 ≤ _ + 1; omega, ?_⟩⟩
        · dsimp only at hw ⊢
          by_cases hwk : w = (pW τ i).1
          · rw [hwk, nU_s, nU_s]; omega
          · rw [nU_n _ _ hwk, nU_n _ _ hwk]
            have := h2 w (by omega)
            omega
        · dsimp only
          rw [Nat.add_sub_cancel, nU_s, nU_s]
      · obtain ⟨h4, h5⟩ := h3 hb
        rw [pW_c hc hb]
        refine ⟨by show (pW τ i).1 ≤ _; omega, fun w hw => ?_, fun _ => ⟨h4, ?_⟩⟩
        · dsimp only at hw ⊢
          by_cases hwk : w = (pW τ i).1 - 1
          · rw [hwk, nU_s]; omega
          · rw [nU_n _ _ hwk]
            have := h2 w (by omega)
            omega
        · dsimp only
          rw [nU_s]; omega
/-- the model's words after an entry -/
def mFW (τ : gST) (i : Nat) (a : gST) : gST := match pP τ i with
  | none => a
  | some _ => if pNew τ i then gPut (gPut (gPut (gPut a 382 (pW τ i).1 (nI i)) 383 (pW τ i).1 0) 376 13 (nI ((pW τ i).1 + 1))) 383 (pW τ i).1 1
    else gPut a 383 ((pW τ i).1 - 1) (nI ((pW τ i).2.2 ((pW τ i).1 - 1) + 1))
theorem mFW_n {τ a : gST} {i : Nat} (h : pP τ i = none) : mFW τ i a = a := by unfold mFW; rw [h]
theorem mFW_b {τ a : gST} {i g : Nat} (h : pP τ i = some g) (h2 : pNew τ i) : mFW τ i a = gPut (gPut (gPut (gPut a 382 (pW τ i).1 (nI i)) 383 (pW τ i).1 0) 376 13 (nI ((pW τ i).1 + 1))) 383 (pW τ i).1 1 := by unfold mFW; rw [h]; exact if_pos h2
theorem mFW_c {τ a : gST} {i g : Nat} (h : pP τ i = some g) (h2 : ¬ pNew τ i) : mFW τ i a = gPut a 383 ((pW τ i).1 - 1) (nI ((pW τ i).2.2 ((pW τ i).1 - 1) + 1)) := by unfold mFW; rw [h]; exact if_neg h2
def pFI (τ σ : gST) (i : Nat) (a : gST) : Prop := a.1 376 13 = nI (pW τ i).1 ∧ (∀ w, w < (pW τ i).1 → a.1 382 w = nI ((pW τ i).2.1 w) ∧ a.1 383 w = nI ((pW τ i).2.2 w)) ∧
  (∀ k, k ≠ 376 → k ≠ 382 → k ≠ 383 → a.1 k = σ.1 k) ∧ (∀ j, j ≠ 13 → a.1 376 j = σ.1 376 j) ∧ a.2 = σ.2
theorem pFI_s {τ σ a : gST} {i : Nat} (h : pFI τ σ i a) : pFI τ σ (i + 1) (mFW τ i a) := by
  obtain ⟨h1, h2, h3, h4, h5⟩ := h
  obtain ⟨-, hI2, hI3⟩ := pW_I τ i
  unfold pFI
  cases hc : pP τ i with
  | none => rw [pW_n hc, mFW_n hc]; exact ⟨h1, h2, h3, h4, h5⟩
  | some g =>
    by_cases hb : pNew τ i
    · rw [pW_b hc hb, mFW_b hc hb]
      refine ⟨?_, fun w hw => ?_, fun k q1 q2 q3 => ?_, fun j hj => ?_, h5⟩
      · rw [gPut_ne _ _ _ (by decide), gPut_at, if_pos ⟨rfl, rfl⟩]
      · dsimp only at hw ⊢
        rw [gPut_ne _ _ _ (by decide), gPut_ne _ _ _ (by decide), gPut_ne _ _ _ (by decide), gPut_s, gPut_s, gPut_ne _ _ _ (by decide), gPut_s, gPut_ne _ _ _ (by decide), uN, uN, uN]
        by_cases hwk : w = (pW τ i).1
        · rw [if_pos hwk, if_pos hwk, hwk, nU_s, nU_s]; exact ⟨rfl, rfl⟩
        · rw [if_neg hwk, if_neg hwk, if_neg hwk, nU_n _ _ hwk, nU_n _ _ hwk]
          exact h2 w (by omega)
      · rw [gPut_ne _ _ _ q3, gPut_ne _ _ _ q1, gPut_ne _ _ _ q3, gPut_ne _ _ _ q2]; exact h3 k q1 q2 q3
      · rw [gPut_ne _ _ _ (by decide), gPut_at, if_neg (by omega), gPut_ne _ _ _ (by decide), gPut_ne _ _ _ (by decide)]; exact h4 j hj
    · obtain ⟨hk1, -⟩ := hI3 hb
      rw [pW_c hc hb, mFW_c hc hb]
      refine ⟨h1, fun w hw => ?_, fun k q1 q2 q3 => ?_, fun j hj => ?_, h5⟩
      · dsimp only at hw ⊢
        rw [gPut_ne _ _ _ (by decide), gPut_s, uN]
        by_cases hwk : w = (pW τ i).1 - 1
        · rw [if_pos hwk, hwk, nU_s]; exact ⟨(h2 _ (by omega)).1, rfl⟩
        · rw [if_neg hwk, nU_n _ _ hwk]
          exact h2 w hw
      · rw [gPut_ne _ _ _ q3]; exact h3 k q1 q2 q3
      · rw [gPut_ne _ _ _ (by decide)]; exact h4 j hj
theorem pFI_l {τ σ : gST} : ∀ (m i : Nat) (a : gST), pFI τ σ i a → pFI τ σ (i + m) (gLoop (mFW τ) i m a)
  | 0, _, _, h => h
  | m + 1, i, a, h => by
    rw [show i + (m + 1) = (i + 1) + m by omega]
    exact pFI_l m (i + 1) _ (pFI_s h)

set_option maxHeartbeats 4000000 in
set_option maxRecDepth 100000 in
theorem lpX11_fw1 {κ : gK} {Z : gZ} {σ τ : gST} {n : Nat} (h24 : gNg τ ≤ 24) (h9 : σ.1 376 9 = nI n) (h60 : n ≤ 60) (hp : ∀ i, i < n → σ.1 381 i = lI (pP τ i) ∧ pO (gNg τ) (pP τ i)) : ∀ (m i : Nat) (a : gST), i + m = n → pFI τ σ i a → Go κ mX11_findWords (gRm 7 0) Z 99 [(0, .ref (κ.2.1 + 376)), (1, .int (nI n))] [] (gLoop (mFW τ) i m a) 0 → Go κ mX11_findWords (gRm 7 0) Z 7 [(0, .ref (κ.2.1 + 376)), (1, .int (nI i))] [] a 0 := by
  intro m
  induction m with
  | zero =>
    intro i a hi hI h
    have hiN : n = i := by omega
    subst hiN
    refine go_iload_n (q := 8) (gDec iX11_findWords_ok 5 rfl) rfl rfl rfl ?_
    refine go_aload_n (q := 9) (gDec iX11_findWords_ok 6 rfl) rfl rfl rfl ?_
    refine go_geti (q := 12) fX11_200 (gDec iX11_findWords_ok 7 rfl) rfl (by decide) rfl ?_
    refine go_top (v' := nI n) ((hI.2.2.2.1 9 (by decide)).trans h9) ?_
    refine go_icmp_ge (t := 99) (q := 15) (gDec iX11_findWords_ok 8 rfl) (by decide) rfl (fun c12 => ?_) (fun c12 => False.elim (c12 (Int32.le_refl _)))
    exact h
  | succ m ih =>
    intro i a hi hI h
    have ih2 := ih (i + 1) (mFW τ i a) (by omega) (pFI_s hI) h
    clear ih h
    have hpi := (hp i (by omega)).1
    have hO := (hp i (by omega)).2
    obtain ⟨hk1, -, hk3⟩ := pW_I τ i
    have hq := hI.1
    cases hc : pP τ i with
    | none =>
      rw [mFW_n hc] at ih2
      rw [hc] at hpi
      refine go_iload_n (q := 8) (gDec iX11_findWords_ok 5 rfl) rfl rfl rfl ?_
      refine go_aload_n (q := 9) (gDec iX11_findWords_ok 6 rfl) rfl rfl rfl ?_
      refine go_geti (q := 12) fX11_200 (gDec iX11_findWords_ok 7 rfl) rfl (by decide) rfl ?_
      refine go_top (v' := nI n) ((hI.2.2.2.1 9 (by decide)).trans h9) ?_
      refine go_icmp_ge (t := 99) (q := 15) (gDec iX11_findWords_ok 8 rfl) (by decide) rfl (fun c12 => False.elim (nI_ge (a := i) (b := n) (by omega) (by omega) c12)) (fun c12 => ?_)
      refine go_aload_n (q := 16) (gDec iX11_findWords_ok 9 rfl) rfl rfl rfl ?_
      refine go_getr (r' := 381) (q := 19) fX11_23 (gDec iX11_findWords_ok 10 rfl) rfl (by decide) rfl ?_
      refine go_iload_n (q := 20) (gDec iX11_findWords_ok 11 rfl) rfl rfl rfl ?_
      refine go_ialdN (q := 21) (gDec iX11_findWords_ok 12 rfl) rfl (by decide) (by omega) (by decide) rfl ?_
      refine go_top (v' := -1) ((congrFun (hI.2.2.1 381 (by decide) (by decide) (by decide)) _).trans hpi) ?_
      refine go_if_lt (t := 69) (q := 24) (gDec iX11_findWords_ok 13 rfl) (by decide) rfl (fun c21 => ?_) (fun c21 => False.elim (c21 (by decide)))
      refine go_aload_n (q := 70) (gDec iX11_findWords_ok 41 rfl) rfl rfl rfl ?_
      refine go_getr (r' := 381) (q := 73) fX11_23 (gDec iX11_findWords_ok 42 rfl) rfl (by decide) rfl ?_
      refine go_iload_n (q := 74) (gDec iX11_findWords_ok 43 rfl) rfl rfl rfl ?_
      refine go_ialdN (q := 75) (gDec iX11_findWords_ok 44 rfl) rfl (by decide) (by omega) (by decide) rfl ?_
      refine go_top (v' := -1) ((congrFun (hI.2.2.1 381 (by decide) (by decide) (by decide)) _).trans hpi) ?_
      refine go_if_lt (t := 93) (q := 78) (gDec iX11_findWords_ok 45 rfl) (by decide) rfl (fun c75 => ?_) (fun c75 => False.elim (c75 (by decide)))
      refine go_iinc (v := nI (i + 1)) (q := 96) (gDec iX11_findWords_ok 57 rfl) rfl (nI_1 _) (by decide) rfl ?_
      refine go_goto (t := 7) (gDec iX11_findWords_ok 58 rfl) (by decide) ?_
      refine go_sub (L' := [(0, .ref (κ.2.1 + 376)), (1, .int (nI (i + 1)))]) ⟨rfl, rfl, trivial⟩ ?_
      exact ih2
    | some g =>
      have hg := hO g hc
      rw [hc] at hpi
      cases i with
      | zero =>
        rw [mFW_b hc (Or.inl rfl)] at ih2
        obtain ⟨q, hqq⟩ : ∃ q, (pW τ 0).1 = q := ⟨_, rfl⟩
        rw [hqq] at hq ih2
        have hq60 : q < 60 := by omega
        refine go_iload_n (q := 8) (gDec iX11_findWords_ok 5 rfl) rfl rfl rfl ?_
        refine go_aload_n (q := 9) (gDec iX11_findWords_ok 6 rfl) rfl rfl rfl ?_
        refine go_geti (q := 12) fX11_200 (gDec iX11_findWords_ok 7 rfl) rfl (by decide) rfl ?_
        refine go_top (v' := nI n) ((hI.2.2.2.1 9 (by decide)).trans h9) ?_
        refine go_icmp_ge (t := 99) (q := 15) (gDec iX11_findWords_ok 8 rfl) (by decide) rfl (fun c12 => False.elim (nI_ge (a := 0) (b := n) (by omega) (by omega) c12)) (fun c12 => ?_)
        refine go_aload_n (q := 16) (gDec iX11_findWords_ok 9 rfl) rfl rfl rfl ?_
        refine go_getr (r' := 381) (q := 19) fX11_23 (gDec iX11_findWords_ok 10 rfl) rfl (by decide) rfl ?_
        refine go_iload_n (q := 20) (gDec iX11_findWords_ok 11 rfl) rfl rfl rfl ?_
        refine go_ialdN (q := 21) (gDec iX11_findWords_ok 12 rfl) rfl (by decide) (by omega) (by decide) rfl ?_
        refine go_top (v' := nI g) ((congrFun (hI.2.2.1 381 (by decide) (by decide) (by decide)) _).trans hpi) ?_
        refine go_if_lt (t := 69) (q := 24) (gDec iX11_findWords_ok 13 rfl) (by decide) rfl (fun c21 => False.elim (nI_pos (by omega) c21)) (fun c21 => ?_)
        refine go_iload_n (q := 25) (gDec iX11_findWords_ok 14 rfl) rfl rfl rfl ?_
        refine go_if_eq (t := 39) (q := 28) (gDec iX11_findWords_ok 15 rfl) (by decide) rfl (fun c25 => ?_) (fun c25 => False.elim (c25 rfl))
        refine go_aload_n (q := 40) (gDec iX11_findWords_ok 23 rfl) rfl rfl rfl ?_
        refine go_getr (r' := 382) (q := 43) fX11_26 (gDec iX11_findWords_ok 24 rfl) rfl (by decide) rfl ?_
        refine go_aload_n (q := 44) (gDec iX11_findWords_ok 25 rfl) rfl rfl rfl ?_
        refine go_geti (q := 47) fX11_212 (gDec iX11_findWords_ok 26 rfl) rfl (by decide) rfl ?_
        refine go_top (v' := nI q) (hq) ?_
        refine go_iload_n (q := 48) (gDec iX11_findWords_ok 27 rfl) rfl rfl rfl ?_
        refine go_iastN (q := 49) (gDec iX11_findWords_ok 28 rfl) rfl (by decide) (by omega) (by decide) rfl ?_
        refine go_aload_n (q := 50) (gDec iX11_findWords_ok 29 rfl) rfl rfl rfl ?_
        refine go_getr (r' := 383) (q := 53) fX11_29 (gDec iX11_findWords_ok 30 rfl) rfl (by decide) rfl ?_
        refine go_aload_n (q := 54) (gDec iX11_findWords_ok 31 rfl) rfl rfl rfl ?_
        refine go_geti (q := 57) fX11_212 (gDec iX11_findWords_ok 32 rfl) rfl (by decide) rfl ?_
        refine go_top (v' := nI q) (hq) ?_
        refine go_iconst (v := 0) (q := 58) (gDec iX11_findWords_ok 33 rfl) (by decide) rfl ?_
        refine go_iastN (q := 59) (gDec iX11_findWords_ok 34 rfl) rfl (by decide) (by omega) (by decide) rfl ?_
        refine go_aload_n (q := 60) (gDec iX11_findWords_ok 35 rfl) rfl rfl rfl ?_
        refine go_dup (q := 61) (gDec iX11_findWords_ok 36 rfl) rfl rfl ?_
        refine go_geti (q := 64) fX11_212 (gDec iX11_findWords_ok 37 rfl) rfl (by decide) rfl ?_
        refine go_top (v' := nI q) (hq) ?_
        refine go_iconst (v := nI 1) (q := 65) (gDec iX11_findWords_ok 38 rfl) (by decide) rfl ?_
        refine go_iaddN (c := q + 1) (q := 66) (gDec iX11_findWords_ok 39 rfl) rfl rfl ?_
        refine go_puti (q := 69) fX11_212 gft11 (gDec iX11_findWords_ok 40 rfl) rfl (by decide) rfl rfl rfl rfl ?_
        refine go_aload_n (q := 70) (gDec iX11_findWords_ok 41 rfl) rfl rfl rfl ?_
        refine go_getr (r' := 381) (q := 73) fX11_23 (gDec iX11_findWords_ok 42 rfl) rfl (by decide) rfl ?_
        refine go_iload_n (q := 74) (gDec iX11_findWords_ok 43 rfl) rfl rfl rfl ?_
        refine go_ialdN (q := 75) (gDec iX11_findWords_ok 44 rfl) rfl (by decide) (by omega) (by decide) rfl ?_
        refine go_top (v' := nI g) ((congrFun (hI.2.2.1 381 (by decide) (by decide) (by decide)) _).trans hpi) ?_
        refine go_if_lt (t := 93) (q := 78) (gDec iX11_findWords_ok 45 rfl) (by decide) rfl (fun c75 => False.elim (nI_pos (by omega) c75)) (fun c75 => ?_)
        refine go_aload_n (q := 79) (gDec iX11_findWords_ok 46 rfl) rfl rfl rfl ?_
        refine go_getr (r' := 383) (q := 82) fX11_29 (gDec iX11_findWords_ok 47 rfl) rfl (by decide) rfl ?_
        refine go_aload_n (q := 83) (gDec iX11_findWords_ok 48 rfl) rfl rfl rfl ?_
        refine go_geti (q := 86) fX11_212 (gDec iX11_findWords_ok 49 rfl) rfl (by decide) rfl ?_
        refine go_top (v' := nI (q + 1)) (rfl) ?_
        refine go_iconst (v := nI 1) (q := 87) (gDec iX11_findWords_ok 50 rfl) (by decide) rfl ?_
        refine go_isub (q := 88) (gDec iX11_findWords_ok 51 rfl) rfl ?_
        refine go_top (v' := nI q) (nI_pred q) ?_
        refine go_dup2 (q := 89) (gDec iX11_findWords_ok 52 rfl) rfl rfl rfl ?_
        refine go_ialdN (q := 90) (gDec iX11_findWords_ok 53 rfl) rfl (by decide) (by omega) (by decide) rfl ?_
        refine go_top (v' := 0) (by rw [gPut_ne _ _ _ (by decide), gPut_at, if_pos ⟨rfl, rfl⟩]) ?_
        refine go_iconst (v := 1) (q := 91) (gDec iX11_findWords_ok 54 rfl) (by decide) rfl ?_
        refine go_iadd (q := 92) (gDec iX11_findWords_ok 55 rfl) rfl ?_
        refine go_top (v' := 1) (by decide) ?_
        refine go_iastN (q := 93) (gDec iX11_findWords_ok 56 rfl) rfl (by decide) (by omega) (by decide) rfl ?_
        refine go_iinc (q := 96) (gDec iX11_findWords_ok 57 rfl) rfl rfl (by decide) rfl ?_
        refine go_goto (t := 7) (gDec iX11_findWords_ok 58 rfl) (by decide) ?_
        refine go_sub (L' := [(0, .ref (κ.2.1 + 376)), (1, .int (nI (0 + 1)))]) ⟨rfl, rfl, trivial⟩ ?_
        exact ih2
      | succ j =>
        have hpj := (hp j (by omega)).1
        have hOj := (hp j (by omega)).2
        cases hd : pP τ j with
        | none =>
          rw [mFW_b hc (Or.inr hd)] at ih2
          rw [hd] at hpj
          obtain ⟨q, hqq⟩ : ∃ q, (pW τ (j + 1)).1 = q := ⟨_, rfl⟩
          rw [hqq] at hq ih2
          have hq60 : q < 60 := by omega
          refine go_iload_n (q := 8) (gDec iX11_findWords_ok 5 rfl) rfl rfl rfl ?_
          refine go_aload_n (q := 9) (gDec iX11_findWords_ok 6 rfl) rfl rfl rfl ?_
          refine go_geti (q := 12) fX11_200 (gDec iX11_findWords_ok 7 rfl) rfl (by decide) rfl ?_
          refine go_top (v' := nI n) ((hI.2.2.2.1 9 (by decide)).trans h9) ?_
          refine go_icmp_ge (t := 99) (q := 15) (gDec iX11_findWords_ok 8 rfl) (by decide) rfl (fun c12 => False.elim (nI_ge (a := (j + 1)) (b := n) (by omega) (by omega) c12)) (fun c12 => ?_)
          refine go_aload_n (q := 16) (gDec iX11_findWords_ok 9 rfl) rfl rfl rfl ?_
          refine go_getr (r' := 381) (q := 19) fX11_23 (gDec iX11_findWords_ok 10 rfl) rfl (by decide) rfl ?_
          refine go_iload_n (q := 20) (gDec iX11_findWords_ok 11 rfl) rfl rfl rfl ?_
          refine go_ialdN (q := 21) (gDec iX11_findWords_ok 12 rfl) rfl (by decide) (by omega) (by decide) rfl ?_
          refine go_top (v' := nI g) ((congrFun (hI.2.2.1 381 (by decide) (by decide) (by decide)) _).trans hpi) ?_
          refine go_if_lt (t := 69) (q := 24) (gDec iX11_findWords_ok 13 rfl) (by decide) rfl (fun c21 => False.elim (nI_pos (by omega) c21)) (fun c21 => ?_)
          refine go_iload_n (q := 25) (gDec iX11_findWords_ok 14 rfl) rfl rfl rfl ?_
          refine go_if_eq (t := 39) (q := 28) (gDec iX11_findWords_ok 15 rfl) (by decide) rfl (fun c25 => False.elim (nI_ne0 (n := j + 1) (by omega) (by omega) c25)) (fun c25 => ?_)
          refine go_aload_n (q := 29) (gDec iX11_findWords_ok 16 rfl) rfl rfl rfl ?_
          refine go_getr (r' := 381) (q := 32) fX11_23 (gDec iX11_findWords_ok 17 rfl) rfl (by decide) rfl ?_
          refine go_iload_n (q := 33) (gDec iX11_findWords_ok 18 rfl) rfl rfl rfl ?_
          refine go_iconst (v := nI 1) (q := 34) (gDec iX11_findWords_ok 19 rfl) (by decide) rfl ?_
          refine go_isub (q := 35) (gDec iX11_findWords_ok 20 rfl) rfl ?_
          refine go_top (v' := nI j) (nI_pred j) ?_
          refine go_ialdN (q := 36) (gDec iX11_findWords_ok 21 rfl) rfl (by decide) (by omega) (by decide) rfl ?_
          refine go_top (v' := -1) ((congrFun (hI.2.2.1 381 (by decide) (by decide) (by decide)) _).trans hpj) ?_
          refine go_if_ge (t := 69) (q := 39) (gDec iX11_findWords_ok 22 rfl) (by decide) rfl (fun c36 => False.elim (absurd c36 (by decide))) (fun c36 => ?_)
          refine go_aload_n (q := 40) (gDec iX11_findWords_ok 23 rfl) rfl rfl rfl ?_
          refine go_getr (r' := 382) (q := 43) fX11_26 (gDec iX11_findWords_ok 24 rfl) rfl (by decide) rfl ?_
          refine go_aload_n (q := 44) (gDec iX11_findWords_ok 25 rfl) rfl rfl rfl ?_
          refine go_geti (q := 47) fX11_212 (gDec iX11_findWords_ok 26 rfl) rfl (by decide) rfl ?_
          refine go_top (v' := nI q) (hq) ?_
          refine go_iload_n (q := 48) (gDec iX11_findWords_ok 27 rfl) rfl rfl rfl ?_
          refine go_iastN (q := 49) (gDec iX11_findWords_ok 28 rfl) rfl (by decide) (by omega) (by decide) rfl ?_
          refine go_aload_n (q := 50) (gDec iX11_findWords_ok 29 rfl) rfl rfl rfl ?_
          refine go_getr (r' := 383) (q := 53) fX11_29 (gDec iX11_findWords_ok 30 rfl) rfl (by decide) rfl ?_
          refine go_aload_n (q := 54) (gDec iX11_findWords_ok 31 rfl) rfl rfl rfl ?_
          refine go_geti (q := 57) fX11_212 (gDec iX11_findWords_ok 32 rfl) rfl (by decide) rfl ?_
          refine go_top (v' := nI q) (hq) ?_
          refine go_iconst (v := 0) (q := 58) (gDec iX11_findWords_ok 33 rfl) (by decide) rfl ?_
          refine go_iastN (q := 59) (gDec iX11_findWords_ok 34 rfl) rfl (by decide) (by omega) (by decide) rfl ?_
          refine go_aload_n (q := 60) (gDec iX11_findWords_ok 35 rfl) rfl rfl rfl ?_
          refine go_dup (q := 61) (gDec iX11_findWords_ok 36 rfl) rfl rfl ?_
          refine go_geti (q := 64) fX11_212 (gDec iX11_findWords_ok 37 rfl) rfl (by decide) rfl ?_
          refine go_top (v' := nI q) (hq) ?_
          refine go_iconst (v := nI 1) (q := 65) (gDec iX11_findWords_ok 38 rfl) (by decide) rfl ?_
          refine go_iaddN (c := q + 1) (q := 66) (gDec iX11_findWords_ok 39 rfl) rfl rfl ?_
          refine go_puti (q := 69) fX11_212 gft11 (gDec iX11_findWords_ok 40 rfl) rfl (by decide) rfl rfl rfl rfl ?_
          refine go_aload_n (q := 70) (gDec iX11_findWords_ok 41 rfl) rfl rfl rfl ?_
          refine go_getr (r' := 381) (q := 73) fX11_23 (gDec iX11_findWords_ok 42 rfl) rfl (by decide) rfl ?_
          refine go_iload_n (q := 74) (gDec iX11_findWords_ok 43 rfl) rfl rfl rfl ?_
          refine go_ialdN (q := 75) (gDec iX11_findWords_ok 44 rfl) rfl (by decide) (by omega) (by decide) rfl ?_
          refine go_top (v' := nI g) ((congrFun (hI.2.2.1 381 (by decide) (by decide) (by decide)) _).trans hpi) ?_
          refine go_if_lt (t := 93) (q := 78) (gDec iX11_findWords_ok 45 rfl) (by decide) rfl (fun c75 => False.elim (nI_pos (by omega) c75)) (fun c75 => ?_)
          refine go_aload_n (q := 79) (gDec iX11_findWords_ok 46 rfl) rfl rfl rfl ?_
          refine go_getr (r' := 383) (q := 82) fX11_29 (gDec iX11_findWords_ok 47 rfl) rfl (by decide) rfl ?_
          refine go_aload_n (q := 83) (gDec iX11_findWords_ok 48 rfl) rfl rfl rfl ?_
          refine go_geti (q := 86) fX11_212 (gDec iX11_findWords_ok 49 rfl) rfl (by decide) rfl ?_
          refine go_top (v' := nI (q + 1)) (rfl) ?_
          refine go_iconst (v := nI 1) (q := 87) (gDec iX11_findWords_ok 50 rfl) (by decide) rfl ?_
          refine go_isub (q := 88) (gDec iX11_findWords_ok 51 rfl) rfl ?_
          refine go_top (v' := nI q) (nI_pred q) ?_
          refine go_dup2 (q := 89) (gDec iX11_findWords_ok 52 rfl) rfl rfl rfl ?_
          refine go_ialdN (q := 90) (gDec iX11_findWords_ok 53 rfl) rfl (by decide) (by omega) (by decide) rfl ?_
          refine go_top (v' := 0) (by rw [gPut_ne _ _ _ (by decide), gPut_at, if_pos ⟨rfl, rfl⟩]) ?_
          refine go_iconst (v := 1) (q := 91) (gDec iX11_findWords_ok 54 rfl) (by decide) rfl ?_
          refine go_iadd (q := 92) (gDec iX11_findWords_ok 55 rfl) rfl ?_
          refine go_top (v' := 1) (by decide) ?_
          refine go_iastN (q := 93) (gDec iX11_findWords_ok 56 rfl) rfl (by decide) (by omega) (by decide) rfl ?_
          refine go_iinc (v := nI ((j + 1) + 1)) (q := 96) (gDec iX11_findWords_ok 57 rfl) rfl (nI_1 _) (by decide) rfl ?_
          refine go_goto (t := 7) (gDec iX11_findWords_ok 58 rfl) (by decide) ?_
          refine go_sub (L' := [(0, .ref (κ.2.1 + 376)), (1, .int (nI ((j + 1) + 1)))]) ⟨rfl, rfl, trivial⟩ ?_
          exact ih2
        | some f =>
          have hf := hOj f hd
          have hnn : ¬ pNew τ (j + 1) := fun h9 => by
            rcases h9 with h9 | h9
            · omega
            · rw [Nat.add_sub_cancel, hd] at h9; cases h9
          rw [mFW_c hc hnn] at ih2
          rw [hd] at hpj
          obtain ⟨hq1, -⟩ := hk3 hnn
          obtain ⟨q, hqq⟩ : ∃ q, (pW τ (j + 1)).1 = q + 1 := ⟨(pW τ (j + 1)).1 - 1, by omega⟩
          have hl := (hI.2.1 q (by omega)).2
          rw [hqq, Nat.add_sub_cancel] at ih2
          rw [hqq] at hq
          obtain ⟨l, hll⟩ : ∃ l, (pW τ (j + 1)).2.2 q = l := ⟨_, rfl⟩
          rw [hll] at hl ih2
          have hq60 : q < 60 := by omega
          refine go_iload_n (q := 8) (gDec iX11_findWords_ok 5 rfl) rfl rfl rfl ?_
          refine go_aload_n (q := 9) (gDec iX11_findWords_ok 6 rfl) rfl rfl rfl ?_
          refine go_geti (q := 12) fX11_200 (gDec iX11_findWords_ok 7 rfl) rfl (by decide) rfl ?_
          refine go_top (v' := nI n) ((hI.2.2.2.1 9 (by decide)).trans h9) ?_
          refine go_icmp_ge (t := 99) (q := 15) (gDec iX11_findWords_ok 8 rfl) (by decide) rfl (fun c12 => False.elim (nI_ge (a := (j + 1)) (b := n) (by omega) (by omega) c12)) (fun c12 => ?_)
          refine go_aload_n (q := 16) (gDec iX11_findWords_ok 9 rfl) rfl rfl rfl ?_
          refine go_getr (r' := 381) (q := 19) fX11_23 (gDec iX11_findWords_ok 10 rfl) rfl (by decide) rfl ?_
          refine go_iload_n (q := 20) (gDec iX11_findWords_ok 11 rfl) rfl rfl rfl ?_
          refine go_ialdN (q := 21) (gDec iX11_findWords_ok 12 rfl) rfl (by decide) (by omega) (by decide) rfl ?_
          refine go_top (v' := nI g) ((congrFun (hI.2.2.1 381 (by decide) (by decide) (by decide)) _).trans hpi) ?_
          refine go_if_lt (t := 69) (q := 24) (gDec iX11_findWords_ok 13 rfl) (by decide) rfl (fun c21 => False.elim (nI_pos (by omega) c21)) (fun c21 => ?_)
          refine go_iload_n (q := 25) (gDec iX11_findWords_ok 14 rfl) rfl rfl rfl ?_
          refine go_if_eq (t := 39) (q := 28) (gDec iX11_findWords_ok 15 rfl) (by decide) rfl (fun c25 => False.elim (nI_ne0 (n := j + 1) (by omega) (by omega) c25)) (fun c25 => ?_)
          refine go_aload_n (q := 29) (gDec iX11_findWords_ok 16 rfl) rfl rfl rfl ?_
          refine go_getr (r' := 381) (q := 32) fX11_23 (gDec iX11_findWords_ok 17 rfl) rfl (by decide) rfl ?_
          refine go_iload_n (q := 33) (gDec iX11_findWords_ok 18 rfl) rfl rfl rfl ?_
          refine go_iconst (v := nI 1) (q := 34) (gDec iX11_findWords_ok 19 rfl) (by decide) rfl ?_
          refine go_isub (q := 35) (gDec iX11_findWords_ok 20 rfl) rfl ?_
          refine go_top (v' := nI j) (nI_pred j) ?_
          refine go_ialdN (q := 36) (gDec iX11_findWords_ok 21 rfl) rfl (by decide) (by omega) (by decide) rfl ?_
          refine go_top (v' := nI f) ((congrFun (hI.2.2.1 381 (by decide) (by decide) (by decide)) _).trans hpj) ?_
          refine go_if_ge (t := 69) (q := 39) (gDec iX11_findWords_ok 22 rfl) (by decide) rfl (fun c36 => ?_) (fun c36 => False.elim (c36 (nI_pos'' (by omega))))
          refine go_aload_n (q := 70) (gDec iX11_findWords_ok 41 rfl) rfl rfl rfl ?_
          refine go_getr (r' := 381) (q := 73) fX11_23 (gDec iX11_findWords_ok 42 rfl) rfl (by decide) rfl ?_
          refine go_iload_n (q := 74) (gDec iX11_findWords_ok 43 rfl) rfl rfl rfl ?_
          refine go_ialdN (q := 75) (gDec iX11_findWords_ok 44 rfl) rfl (by decide) (by omega) (by decide) rfl ?_
          refine go_top (v' := nI g) ((congrFun (hI.2.2.1 381 (by decide) (by decide) (by decide)) _).trans hpi) ?_
          refine go_if_lt (t := 93) (q := 78) (gDec iX11_findWords_ok 45 rfl) (by decide) rfl (fun c75 => False.elim (nI_pos (by omega) c75)) (fun c75 => ?_)
          refine go_aload_n (q := 79) (gDec iX11_findWords_ok 46 rfl) rfl rfl rfl ?_
          refine go_getr (r' := 383) (q := 82) fX11_29 (gDec iX11_findWords_ok 47 rfl) rfl (by decide) rfl ?_
          refine go_aload_n (q := 83) (gDec iX11_findWords_ok 48 rfl) rfl rfl rfl ?_
          refine go_geti (q := 86) fX11_212 (gDec iX11_findWords_ok 49 rfl) rfl (by decide) rfl ?_
          refine go_top (v' := nI (q + 1)) (hq) ?_
          refine go_iconst (v := nI 1) (q := 87) (gDec iX11_findWords_ok 50 rfl) (by decide) rfl ?_
          refine go_isub (q := 88) (gDec iX11_findWords_ok 51 rfl) rfl ?_
          refine go_top (v' := nI q) (nI_pred q) ?_
          refine go_dup2 (q := 89) (gDec iX11_findWords_ok 52 rfl) rfl rfl rfl ?_
          refine go_ialdN (q := 90) (gDec iX11_findWords_ok 53 rfl) rfl (by decide) (by omega) (by decide) rfl ?_
          refine go_top (v' := nI l) (hl) ?_
          refine go_iconst (v := nI 1) (q := 91) (gDec iX11_findWords_ok 54 rfl) (by decide) rfl ?_
          refine go_iaddN (c := l + 1) (q := 92) (gDec iX11_findWords_ok 55 rfl) rfl rfl ?_
          refine go_iastN (q := 93) (gDec iX11_findWords_ok 56 rfl) rfl (by decide) (by omega) (by decide) rfl ?_
          refine go_iinc (v := nI ((j + 1) + 1)) (q := 96) (gDec iX11_findWords_ok 57 rfl) rfl (nI_1 _) (by decide) rfl ?_
          refine go_goto (t := 7) (gDec iX11_findWords_ok 58 rfl) (by decide) ?_
          refine go_sub (L' := [(0, .ref (κ.2.1 + 376)), (1, .int (nI ((j + 1) + 1)))]) ⟨rfl, rfl, trivial⟩ ?_
          exact ih2
