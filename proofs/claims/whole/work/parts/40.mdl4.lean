/-- the place of a pair among the told ones -/
def gPo (s : Nat → Int32) (a b : Int32) : Nat → Nat → Int32
  | _, 0 => -1
  | i, m + 1 => if s (76 + 3 * i) = a ∧ s (76 + 3 * i + 1) = b then nI i else gPo s a b (i + 1) m
theorem gPo_spec {s : Nat → Int32} {a b : Int32} : ∀ (m i : Nat), (gPo s a b i m = -1 ∧ ∀ k, i ≤ k → k < i + m → ¬ (s (76 + 3 * k) = a ∧ s (76 + 3 * k + 1) = b)) ∨ ∃ k, i ≤ k ∧ k < i + m ∧ gPo s a b i m = nI k ∧ s (76 + 3 * k) = a ∧ s (76 + 3 * k + 1) = b
  | 0, i => Or.inl ⟨rfl, fun k h1 h2 => by omega⟩
  | m + 1, i => by
    unfold gPo
    by_cases h : s (76 + 3 * i) = a ∧ s (76 + 3 * i + 1) = b
    · rw [if_pos h]
      exact Or.inr ⟨i, Nat.le_refl _, by omega, rfl, h.1, h.2⟩
    · rw [if_neg h]
      rcases gPo_spec (s := s) (a := a) (b := b) m (i + 1) with ⟨h1, h2⟩ | ⟨k, h1, h2, h3⟩
      · refine Or.inl ⟨h1, fun k h3 h4 => ?_⟩
        rcases Nat.eq_or_lt_of_le h3 with h5 | h5
        · subst h5; exact h
        · exact h2 k h5 (by omega)
      · exact Or.inr ⟨k, by omega, by omega, h3⟩
theorem gPo_some {τ : gST} {s : Nat → Int32} {i j : Nat} (h : gMP τ s) (hi : i < 24) (hj : j < 24) (hn : ¬ τ.1 28 (i * 24 + j) = 301) : ∃ k, k < nA (τ.1 20 5) ∧ gPo s (nI i) (nI j) 0 (nA (τ.1 20 5)) = nI k ∧ s (76 + 3 * k + 2) = τ.1 28 (i * 24 + j) ∧ s (76 + 3 * k) = nI i ∧ s (76 + 3 * k + 1) = nI j := by
  obtain ⟨pr, h40, h1, h2, h3⟩ := h
  obtain ⟨k, hk, hke⟩ := h2 (i * 24 + j) (by omega) hn
  rcases gPo_spec (s := s) (a := nI i) (b := nI j) (nA (τ.1 20 5)) 0 with ⟨-, h5⟩ | ⟨l, -, hl, he, ha, hb⟩
  · obtain ⟨g1, g2, g3, -⟩ := h1 k hk
    exact absurd ⟨by rw [g2, hke, show (i * 24 + j) / 24 = i by omega], by rw [g3, hke, show (i * 24 + j) % 24 = j by omega]⟩ (h5 k (Nat.zero_le _) (by omega))
  · obtain ⟨g1, g2, g3, g4, -⟩ := h1 l (by omega)
    rw [g2] at ha
    rw [g3] at hb
    have e1 := (nI_eq (by omega) (by omega)).mp ha
    have e2 := (nI_eq (by omega) (by omega)).mp hb
    have e3 : pr l = i * 24 + j := by omega
    exact ⟨l, by omega, he, by rw [g4, e3], by rw [g2, ha], by rw [g3, hb]⟩
theorem gPo_none {τ : gST} {s : Nat → Int32} {i j : Nat} (h : gMP τ s) (hi : i < 24) (hj : j < 24) (hn : τ.1 28 (i * 24 + j) = 301) : gPo s (nI i) (nI j) 0 (nA (τ.1 20 5)) = -1 := by
  obtain ⟨pr, h40, h1, h2, h3⟩ := h
  rcases gPo_spec (s := s) (a := nI i) (b := nI j) (nA (τ.1 20 5)) 0 with ⟨h5, -⟩ | ⟨l, -, hl, he, ha, hb⟩
  · exact h5
  · exfalso
    obtain ⟨g1, g2, g3, g4, g5⟩ := h1 l (by omega)
    rw [g2] at ha
    rw [g3] at hb
    have e1 := (nI_eq (by omega) (by omega)).mp ha
    have e2 := (nI_eq (by omega) (by omega)).mp hb
    have e3 : pr l = i * 24 + j := by omega
    rw [e3] at g5
    exact g5 hn
theorem gPo_out {τ : gST} {s : Nat → Int32} {a b : Int32} (h : gMP τ s) (hn : ¬ gInt2 23 a b) : gPo s a b 0 (nA (τ.1 20 5)) = -1 := by
  obtain ⟨pr, h40, h1, h2, h3⟩ := h
  rcases gPo_spec (s := s) (a := a) (b := b) (nA (τ.1 20 5)) 0 with ⟨h5, -⟩ | ⟨l, -, hl, he, ha, hb⟩
  · exact h5
  · exfalso
    obtain ⟨g1, g2, g3, g4, g5⟩ := h1 l (by omega)
    rw [g2] at ha
    rw [g3] at hb
    apply hn
    rw [← ha, ← hb, gInt2, nI_toInt (by omega), nI_toInt (by omega)]
    omega
theorem gMR.mp {τ : gST} {s : Nat → Int32} (h : gMR τ s) : gMP τ s := h.2.2.1
theorem gMR.pn {τ : gST} {s : Nat → Int32} (h : gMR τ s) : s 3 = nI (nA (τ.1 20 5)) := h.1.2.2.2
theorem gMP.n40 {τ : gST} {s : Nat → Int32} (h : gMP τ s) : nA (τ.1 20 5) ≤ 40 := h.choose_spec.1
theorem gMR.ct {τ : gST} {s : Nat → Int32} (h : gMR τ s) {a b x : Nat} (ha : a < 6) (hb : b < 6) (hx : x = 4 + 6 * a + b) : s x = (if τ.1 26 (a * 6 + b) = 301 then 0 else 1) := by
  subst hx
  rw [show 4 + 6 * a + b = 4 + (a * 6 + b) by omega]
  exact (h.2.1 (a * 6 + b) (by omega)).1
theorem gMR.ck {τ : gST} {s : Nat → Int32} (h : gMR τ s) {a b x : Nat} (ha : a < 6) (hb : b < 6) (hn : ¬ τ.1 26 (a * 6 + b) = 301) (hx : x = 40 + 6 * a + b) : s x = τ.1 26 (a * 6 + b) := by
  subst hx
  rw [show 40 + 6 * a + b = 40 + (a * 6 + b) by omega]
  exact (h.2.1 (a * 6 + b) (by omega)).2 hn

set_option maxHeartbeats 4000000 in
set_option maxRecDepth 100000 in
theorem lpX11_pairOf {κ : gK} {σ σ' τ : gST} {o : gO} {a b : Int32} (hM : gMR τ (σ.1 377)) (hσ : σ' = σ) : ∀ (m i : Nat), i + m = (nA (τ.1 20 5)) → o = .inl (some (.int (gPo (σ.1 377) a b i m))) → Go κ mX11_pairOf (gRm 1 0) (gZm κ o σ' 0) 2 [(0, .ref (κ.2.1 + 376)), (1, .int a), (2, .int b), (3, .int (nI i))] [] σ 0 := by
  have h40 := hM.mp.n40
  intro m
  induction m with
  | zero =>
    intro i hi ho
    refine go_iload_n (q := 3) (gDec iX11_pairOf_ok 2 rfl) rfl rfl rfl ?_
    refine go_aload_n (q := 4) (gDec iX11_pairOf_ok 3 rfl) rfl rfl rfl ?_
    refine go_getr (r' := 377) (q := 7) fX11_9 (gDec iX11_pairOf_ok 4 rfl) rfl (by decide) rfl ?_
    refine go_iconst (v := nI 3) (q := 8) (gDec iX11_pairOf_ok 5 rfl) (by decide) rfl ?_
    refine go_ialdN (q := 9) (gDec iX11_pairOf_ok 6 rfl) rfl (by decide) (j := 3) (by omega) (by decide) rfl ?_
    refine go_top (v' := nI (nA (τ.1 20 5))) (hM.pn) ?_
    refine go_icmp_ge (t := 52) (q := 12) (gDec iX11_pairOf_ok 7 rfl) (by decide) rfl (fun c9 => ?_) (fun c9 => False.elim (c9 (nI_le (by omega) (by omega))))
    refine go_iconst (v := (-1)) (q := 53) (gDec iX11_pairOf_ok 34 rfl) (by decide) rfl ?_
    exact go_ireturn (gDec iX11_pairOf_ok 35 rfl) rfl rfl ho hσ (by decide)
  | succ m ih =>
    intro i hi ho
    rw [gPo] at ho
    refine go_iload_n (q := 3) (gDec iX11_pairOf_ok 2 rfl) rfl rfl rfl ?_
    refine go_aload_n (q := 4) (gDec iX11_pairOf_ok 3 rfl) rfl rfl rfl ?_
    refine go_getr (r' := 377) (q := 7) fX11_9 (gDec iX11_pairOf_ok 4 rfl) rfl (by decide) rfl ?_
    refine go_iconst (v := nI 3) (q := 8) (gDec iX11_pairOf_ok 5 rfl) (by decide) rfl ?_
    refine go_ialdN (q := 9) (gDec iX11_pairOf_ok 6 rfl) rfl (by decide) (j := 3) (by omega) (by decide) rfl ?_
    refine go_top (v' := nI (nA (τ.1 20 5))) (hM.pn) ?_
    refine go_icmp_ge (t := 52) (q := 12) (gDec iX11_pairOf_ok 7 rfl) (by decide) rfl (fun c9 => False.elim (nI_ge (a := i) (b := nA (τ.1 20 5)) (by omega) (by omega) c9)) (fun c9 => ?_)
    refine go_aload_n (q := 13) (gDec iX11_pairOf_ok 8 rfl) rfl rfl rfl ?_
    refine go_getr (r' := 377) (q := 16) fX11_9 (gDec iX11_pairOf_ok 9 rfl) rfl (by decide) rfl ?_
    refine go_bipush (v := nI 76) (q := 18) (gDec iX11_pairOf_ok 10 rfl) (by decide) rfl ?_
    refine go_iconst (v := nI 3) (q := 19) (gDec iX11_pairOf_ok 11 rfl) (by decide) rfl ?_
    refine go_iload_n (q := 20) (gDec iX11_pairOf_ok 12 rfl) rfl rfl rfl ?_
    refine go_imulN (c := 3 * i) (q := 21) (gDec iX11_pairOf_ok 13 rfl) rfl rfl ?_
    refine go_iaddN (c := 76 + (3 * i)) (q := 22) (gDec iX11_pairOf_ok 14 rfl) rfl rfl ?_
    refine go_ialdN (q := 23) (gDec iX11_pairOf_ok 15 rfl) rfl (by decide) (by omega) (by decide) rfl ?_
    refine go_iload_n (q := 24) (gDec iX11_pairOf_ok 16 rfl) rfl rfl rfl ?_
    refine go_icmp_ne (t := 46) (q := 27) (gDec iX11_pairOf_ok 17 rfl) (by decide) rfl (fun c24 => ?_) (fun c24 => ?_)
    · refine go_iinc (v := nI (i + 1)) (q := 49) (gDec iX11_pairOf_ok 32 rfl) rfl (nI_1 _) (by decide) rfl ?_
      refine go_goto (t := 2) (gDec iX11_pairOf_ok 33 rfl) (by decide) ?_
      refine go_sub (L' := [(0, .ref (κ.2.1 + 376)), (1, .int a), (2, .int b), (3, .int (nI (i + 1)))]) ⟨rfl, rfl, rfl, rfl, trivial⟩ ?_
      exact ih (i + 1) (by omega) (ho.trans (by first | rw [if_neg (fun h9 => c24 h9.1)] | rw [if_neg (fun h9 => c41 h9.2)]))
    · refine go_aload_n (q := 28) (gDec iX11_pairOf_ok 18 rfl) rfl rfl rfl ?_
      refine go_getr (r' := 377) (q := 31) fX11_9 (gDec iX11_pairOf_ok 19 rfl) rfl (by decide) rfl ?_
      refine go_bipush (v := nI 76) (q := 33) (gDec iX11_pairOf_ok 20 rfl) (by decide) rfl ?_
      refine go_iconst (v := nI 3) (q := 34) (gDec iX11_pairOf_ok 21 rfl) (by decide) rfl ?_
      refine go_iload_n (q := 35) (gDec iX11_pairOf_ok 22 rfl) rfl rfl rfl ?_
      refine go_imulN (c := 3 * i) (q := 36) (gDec iX11_pairOf_ok 23 rfl) rfl rfl ?_
      refine go_iaddN (c := 76 + (3 * i)) (q := 37) (gDec iX11_pairOf_ok 24 rfl) rfl rfl ?_
      refine go_iconst (v := nI 1) (q := 38) (gDec iX11_pairOf_ok 25 rfl) (by decide) rfl ?_
      refine go_iaddN (c := 76 + (3 * i) + 1) (q := 39) (gDec iX11_pairOf_ok 26 rfl) rfl rfl ?_
      refine go_ialdN (q := 40) (gDec iX11_pairOf_ok 27 rfl) rfl (by decide) (by omega) (by decide) rfl ?_
      refine go_iload_n (q := 41) (gDec iX11_pairOf_ok 28 rfl) rfl rfl rfl ?_
      refine go_icmp_ne (t := 46) (q := 44) (gDec iX11_pairOf_ok 29 rfl) (by decide) rfl (fun c41 => ?_) (fun c41 => ?_)
      · refine go_iinc (v := nI (i + 1)) (q := 49) (gDec iX11_pairOf_ok 32 rfl) rfl (nI_1 _) (by decide) rfl ?_
        refine go_goto (t := 2) (gDec iX11_pairOf_ok 33 rfl) (by decide) ?_
        refine go_sub (L' := [(0, .ref (κ.2.1 + 376)), (1, .int a), (2, .int b), (3, .int (nI (i + 1)))]) ⟨rfl, rfl, rfl, rfl, trivial⟩ ?_
        exact ih (i + 1) (by omega) (ho.trans (by first | rw [if_neg (fun h9 => c24 h9.1)] | rw [if_neg (fun h9 => c41 h9.2)]))
      · refine go_iload_n (q := 45) (gDec iX11_pairOf_ok 30 rfl) rfl rfl rfl ?_
        exact go_ireturn (gDec iX11_pairOf_ok 31 rfl) rfl rfl (ho.trans (by rw [if_pos ⟨c24, c41⟩])) hσ (by decide)

set_option maxHeartbeats 4000000 in
set_option maxRecDepth 100000 in
theorem ctX11_pairOf {κ : gK} {σ : gST} {τ : gST} {a b : Int32} (hM : gMR τ (σ.1 377)) : gCt κ mX11_pairOf 1 [.ref (κ.2.1 + 376), .int a, .int b] σ (.inl (some (.int (gPo (σ.1 377) a b 0 (nA (τ.1 20 5)))))) σ 0 := by
  refine ct_of (by decide +kernel) rfl (Nat.le_of_ble_eq_true rfl) rfl ?_
  refine go_iconst (v := nI 0) (q := 1) (gDec iX11_pairOf_ok 0 rfl) (by decide) rfl ?_
  refine go_istore_n (q := 2) (gDec iX11_pairOf_ok 1 rfl) rfl (by decide) rfl ?_
  refine go_sub (L' := [(0, .ref (κ.2.1 + 376)), (1, .int a), (2, .int b), (3, .int (nI 0))]) ⟨rfl, rfl, rfl, rfl, trivial⟩ ?_
  exact lpX11_pairOf hM rfl (nA (τ.1 20 5)) 0 (by omega) rfl

set_option maxHeartbeats 4000000 in
set_option maxRecDepth 100000 in
theorem ctX11_isToldFor {κ : gK} {σ τ : gST} {a b : Nat} (hM : gMR τ (σ.1 377)) (ha : a < 6) (hb : b < 6) : gCt κ mX11_isToldFor 2 [.ref (κ.2.1 + 376), .int (nI a), .int (nI b)] σ (.inl (some (.int (if τ.1 26 (a * 6 + b) = 301 then 0 else 1)))) σ 0 := by
  refine ct_of (by decide +kernel) rfl (Nat.le_of_ble_eq_true rfl) rfl ?_
  by_cases h : τ.1 26 (a * 6 + b) = 301
  · rw [if_pos h]
    refine go_iload_n (q := 1) (gDec iX11_isToldFor_ok 0 rfl) rfl rfl rfl ?_
    refine go_callS (n2 := 0) (q := 4) kX11_153 ctX11_isClass (gDec iX11_isToldFor_ok 1 rfl) rfl rfl (Nat.le_of_ble_eq_true rfl) rfl (gFit_rm (by decide) (by decide)) rfl ?_
    refine go_top (v' := 1) (gWi_t (by rw [nI_toInt (by omega)]; omega)) ?_
    refine go_if_eq (t := 35) (q := 7) (gDec iX11_isToldFor_ok 2 rfl) (by decide) rfl (fun c4 => False.elim (absurd c4 (by decide))) (fun c4 => ?_)
    refine go_iload_n (q := 8) (gDec iX11_isToldFor_ok 3 rfl) rfl rfl rfl ?_
    refine go_callS (n2 := 0) (q := 11) kX11_153 ctX11_isClass (gDec iX11_isToldFor_ok 4 rfl) rfl rfl (Nat.le_of_ble_eq_true rfl) rfl (gFit_rm (by decide) (by decide)) rfl ?_
    refine go_top (v' := 1) (gWi_t (by rw [nI_toInt (by omega)]; omega)) ?_
    refine go_if_eq (t := 35) (q := 14) (gDec iX11_isToldFor_ok 5 rfl) (by decide) rfl (fun c11 => False.elim (absurd c11 (by decide))) (fun c11 => ?_)
    refine go_aload_n (q := 15) (gDec iX11_isToldFor_ok 6 rfl) rfl rfl rfl ?_
    refine go_getr (r' := 377) (q := 18) fX11_9 (gDec iX11_isToldFor_ok 7 rfl) rfl (by decide) rfl ?_
    refine go_iconst (v := nI 4) (q := 19) (gDec iX11_isToldFor_ok 8 rfl) (by decide) rfl ?_
    refine go_bipush (v := nI 6) (q := 21) (gDec iX11_isToldFor_ok 9 rfl) (by decide) rfl ?_
    refine go_iload_n (q := 22) (gDec iX11_isToldFor_ok 10 rfl) rfl rfl rfl ?_
    refine go_imulN (c := 6 * a) (q := 23) (gDec iX11_isToldFor_ok 11 rfl) rfl rfl ?_
    refine go_iaddN (c := 4 + (6 * a)) (q := 24) (gDec iX11_isToldFor_ok 12 rfl) rfl rfl ?_
    refine go_iload_n (q := 25) (gDec iX11_isToldFor_ok 13 rfl) rfl rfl rfl ?_
    refine go_iaddN (c := 4 + (6 * a) + b) (q := 26) (gDec iX11_isToldFor_ok 14 rfl) rfl rfl ?_
    refine go_ialdN (q := 27) (gDec iX11_isToldFor_ok 15 rfl) rfl (by decide) (by omega) (by decide) rfl ?_
    refine go_top (v' := 0) ((hM.ct ha hb rfl).trans (if_pos h)) ?_
    refine go_iconst (v := 1) (q := 28) (gDec iX11_isToldFor_ok 16 rfl) (by decide) rfl ?_
    refine go_icmp_ne (t := 35) (q := 31) (gDec iX11_isToldFor_ok 17 rfl) (by decide) rfl (fun c28 => ?_) (fun c28 => False.elim (absurd c28 (by decide)))
    refine go_iconst (v := nI 0) (q := 36) (gDec iX11_isToldFor_ok 20 rfl) (by decide) rfl ?_
    exact go_ireturn (gDec iX11_isToldFor_ok 21 rfl) rfl rfl rfl rfl (by decide)
  · rw [if_neg h]
    refine go_iload_n (q := 1) (gDec iX11_isToldFor_ok 0 rfl) rfl rfl rfl ?_
    refine go_callS (n2 := 0) (q := 4) kX11_153 ctX11_isClass (gDec iX11_isToldFor_ok 1 rfl) rfl rfl (Nat.le_of_ble_eq_true rfl) rfl (gFit_rm (by decide) (by decide)) rfl ?_
    refine go_top (v' := 1) (gWi_t (by rw [nI_toInt (by omega)]; omega)) ?_
    refine go_if_eq (t := 35) (q := 7) (gDec iX11_isToldFor_ok 2 rfl) (by decide) rfl (fun c4 => False.elim (absurd c4 (by decide))) (fun c4 => ?_)
    refine go_iload_n (q := 8) (gDec iX11_isToldFor_ok 3 rfl) rfl rfl rfl ?_
    refine go_callS (n2 := 0) (q := 11) kX11_153 ctX11_isClass (gDec iX11_isToldFor_ok 4 rfl) rfl rfl (Nat.le_of_ble_eq_true rfl) rfl (gFit_rm (by decide) (by decide)) rfl ?_
    refine go_top (v' := 1) (gWi_t (by rw [nI_toInt (by omega)]; omega)) ?_
    refine go_if_eq (t := 35) (q := 14) (gDec iX11_isToldFor_ok 5 rfl) (by decide) rfl (fun c11 => False.elim (absurd c11 (by decide))) (fun c11 => ?_)
    refine go_aload_n (q := 15) (gDec iX11_isToldFor_ok 6 rfl) rfl rfl rfl ?_
    refine go_getr (r' := 377) (q := 18) fX11_9 (gDec iX11_isToldFor_ok 7 rfl) rfl (by decide) rfl ?_
    refine go_iconst (v := nI 4) (q := 19) (gDec iX11_isToldFor_ok 8 rfl) (by decide) rfl ?_
    refine go_bipush (v := nI 6) (q := 21) (gDec iX11_isToldFor_ok 9 rfl) (by decide) rfl ?_
    refine go_iload_n (q := 22) (gDec iX11_isToldFor_ok 10 rfl) rfl rfl rfl ?_
    refine go_imulN (c := 6 * a) (q := 23) (gDec iX11_isToldFor_ok 11 rfl) rfl rfl ?_
    refine go_iaddN (c := 4 + (6 * a)) (q := 24) (gDec iX11_isToldFor_ok 12 rfl) rfl rfl ?_
    refine go_iload_n (q := 25) (gDec iX11_isToldFor_ok 13 rfl) rfl rfl rfl ?_
    refine go_iaddN (c := 4 + (6 * a) + b) (q := 26) (gDec iX11_isToldFor_ok 14 rfl) rfl rfl ?_
    refine go_ialdN (q := 27) (gDec iX11_isToldFor_ok 15 rfl) rfl (by decide) (by omega) (by decide) rfl ?_
    refine go_top (v' := 1) ((hM.ct ha hb rfl).trans (if_neg h)) ?_
    refine go_iconst (v := 1) (q := 28) (gDec iX11_isToldFor_ok 16 rfl) (by decide) rfl ?_
    refine go_icmp_ne (t := 35) (q := 31) (gDec iX11_isToldFor_ok 17 rfl) (by decide) rfl (fun c28 => False.elim (c28 rfl)) (fun c28 => ?_)
    refine go_iconst (v := nI 1) (q := 32) (gDec iX11_isToldFor_ok 18 rfl) (by decide) rfl ?_
    refine go_goto (t := 36) (gDec iX11_isToldFor_ok 19 rfl) (by decide) ?_
    exact go_ireturn (gDec iX11_isToldFor_ok 21 rfl) rfl rfl rfl rfl (by decide)

set_option maxHeartbeats 4000000 in
set_option maxRecDepth 100000 in
theorem ctX11_isToldFor0 {κ : gK} {σ : gST} {a b : Int32} (hn : ¬ gInt2 5 a b) : gCt κ mX11_isToldFor 2 [.ref (κ.2.1 + 376), .int a, .int b] σ (.inl (some (.int (0)))) σ 0 := by
  refine ct_of (by decide +kernel) rfl (Nat.le_of_ble_eq_true rfl) rfl ?_
  by_cases h : 0 ≤ a.toInt ∧ a.toInt ≤ 5
  · have h2 : ¬ (0 ≤ b.toInt ∧ b.toInt ≤ 5) := fun h9 => hn ⟨h, h9⟩
    refine go_iload_n (q := 1) (gDec iX11_isToldFor_ok 0 rfl) rfl rfl rfl ?_
    refine go_callS (n2 := 0) (q := 4) kX11_153 ctX11_isClass (gDec iX11_isToldFor_ok 1 rfl) rfl rfl (Nat.le_of_ble_eq_true rfl) rfl (gFit_rm (by decide) (by decide)) rfl ?_
    refine go_top (v' := 1) (gWi_t h) ?_
    refine go_if_eq (t := 35) (q := 7) (gDec iX11_isToldFor_ok 2 rfl) (by decide) rfl (fun c4 => False.elim (absurd c4 (by decide))) (fun c4 => ?_)
    refine go_iload_n (q := 8) (gDec iX11_isToldFor_ok 3 rfl) rfl rfl rfl ?_
    refine go_callS (n2 := 0) (q := 11) kX11_153 ctX11_isClass (gDec iX11_isToldFor_ok 4 rfl) rfl rfl (Nat.le_of_ble_eq_true rfl) rfl (gFit_rm (by decide) (by decide)) rfl ?_
    refine go_top (v' := 0) (gWi_f h2) ?_
    refine go_if_eq (t := 35) (q := 14) (gDec iX11_isToldFor_ok 5 rfl) (by decide) rfl (fun c11 => ?_) (fun c11 => False.elim (c11 rfl))
    refine go_iconst (v := nI 0) (q := 36) (gDec iX11_isToldFor_ok 20 rfl) (by decide) rfl ?_
    exact go_ireturn (gDec iX11_isToldFor_ok 21 rfl) rfl rfl rfl rfl (by decide)
  · skip
    refine go_iload_n (q := 1) (gDec iX11_isToldFor_ok 0 rfl) rfl rfl rfl ?_
    refine go_callS (n2 := 0) (q := 4) kX11_153 ctX11_isClass (gDec iX11_isToldFor_ok 1 rfl) rfl rfl (Nat.le_of_ble_eq_true rfl) rfl (gFit_rm (by decide) (by decide)) rfl ?_
    refine go_top (v' := 0) (gWi_f h) ?_
    refine go_if_eq (t := 35) (q := 7) (gDec iX11_isToldFor_ok 2 rfl) (by decide) rfl (fun c4 => ?_) (fun c4 => False.elim (c4 rfl))
    refine go_iconst (v := nI 0) (q := 36) (gDec iX11_isToldFor_ok 20 rfl) (by decide) rfl ?_
    exact go_ireturn (gDec iX11_isToldFor_ok 21 rfl) rfl rfl rfl rfl (by decide)

theorem gMR.kx {τ : gST} {s : Nat → Int32} {g x : Nat} (h : gMR τ s) (hW : gDW τ) (hg : g < gNg τ) (hx : x = 196 + 96 * g + 85) : s x = lI (gKx τ g) := (h.fc hg hx).trans (hW.kx (by have := hW.ng24; omega))
theorem gMR.ky {τ : gST} {s : Nat → Int32} {g x : Nat} (h : gMR τ s) (hW : gDW τ) (hg : g < gNg τ) (hx : x = 196 + 96 * g + 86) : s x = lI (gKy τ g) := (h.sc hg hx).trans (hW.ky (by have := hW.ng24; omega))

set_option maxHeartbeats 4000000 in
set_option maxRecDepth 100000 in
theorem ctX11_told {κ : gK} {σ τ : gST} {x y : Option Nat} (hM : gMR τ (σ.1 377)) (hx : ∀ a, x = some a → a < 6) (hy : ∀ a, y = some a → a < 6) : gCt κ mX11_isToldFor 2 [.ref (κ.2.1 + 376), .int (lI x), .int (lI y)] σ (.inl (some (.int (gTC (τ.1 26) x y)))) σ 0 := by
  cases x with
  | none => exact ctX11_isToldFor0 lI_none_not
  | some a =>
    cases y with
    | none => exact ctX11_isToldFor0 lI_none_not2
    | some b => exact ctX11_isToldFor hM (hx a rfl) (hy b rfl)
theorem gTC_nz (f : Nat → Int32) (x y : Option Nat) : narrow .boolean (.int (gTC f x y)) = .int (gTC f x y) := by
  unfold gTC
  split
  · split <;> decide +kernel
  · decide +kernel

set_option maxHeartbeats 4000000 in
set_option maxRecDepth 100000 in
theorem ctX11_hasClassKern {κ : gK} {σ : gST} {τ : gST} {g h : Nat} (hW : gDW τ) (hM : gMR τ (σ.1 377)) (hg : g < gNg τ) (hh : h < gNg τ) : gCt κ mX11_hasClassKern 3 [.ref (κ.2.1 + 376), .int (nI g), .int (nI h)] σ (.inl (some (.int (gTC (τ.1 26) (gKx τ g) (gKy τ h))))) σ 0 := by
  have h24 := hW.ng24
  refine ct_of (by decide +kernel) rfl (Nat.le_of_ble_eq_true rfl) rfl ?_
  refine go_aload_n (q := 1) (gDec iX11_hasClassKern_ok 0 rfl) rfl rfl rfl ?_
  refine go_aload_n (q := 2) (gDec iX11_hasClassKern_ok 1 rfl) rfl rfl rfl ?_
  refine go_iload_n (q := 3) (gDec iX11_hasClassKern_ok 2 rfl) rfl rfl rfl ?_
  refine go_bipush (v := nI 85) (q := 5) (gDec iX11_hasClassKern_ok 3 rfl) (by decide) rfl ?_
  refine go_callV (n2 := 0) (q := 8) kX11_69 (ctX11_of (g := g) (w := 85) (by omega)) (gDec iX11_hasClassKern_ok 4 rfl) rfl rfl (by decide) rfl rfl rfl (Nat.le_of_ble_eq_true rfl) rfl (gFit_rm (by decide) (by decide)) rfl ?_
  refine go_top (v' := lI (gKx τ g)) (hM.kx hW hg rfl) ?_
  refine go_aload_n (q := 9) (gDec iX11_hasClassKern_ok 5 rfl) rfl rfl rfl ?_
  refine go_iload_n (q := 10) (gDec iX11_hasClassKern_ok 6 rfl) rfl rfl rfl ?_
  refine go_bipush (v := nI 86) (q := 12) (gDec iX11_hasClassKern_ok 7 rfl) (by decide) rfl ?_
  refine go_callV (n2 := 0) (q := 15) kX11_69 (ctX11_of (g := h) (w := 86) (by omega)) (gDec iX11_hasClassKern_ok 8 rfl) rfl rfl (by decide) rfl rfl rfl (Nat.le_of_ble_eq_true rfl) rfl (gFit_rm (by decide) (by decide)) rfl ?_
  refine go_top (v' := lI (gKy τ h)) (hM.ky hW hh rfl) ?_
  refine go_callV (n2 := 0) (q := 18) kX11_166 (ctX11_told (τ := τ) hM (hW.kx6 (by omega)) (hW.ky6 (by omega))) (gDec iX11_hasClassKern_ok 9 rfl) rfl rfl (by decide) rfl rfl rfl (Nat.le_of_ble_eq_true rfl) rfl (gFit_rm (by decide) (by decide)) rfl ?_
  exact go_ireturn (gDec iX11_hasClassKern_ok 10 rfl) rfl (gTC_nz _ _ _) rfl rfl (by decide)

set_option maxHeartbeats 4000000 in
set_option maxRecDepth 100000 in
theorem ctX11_kernOf {κ : gK} {σ τ : gST} {g h : Nat} (hW : gDW τ) (hM : gMR τ (σ.1 377)) (hg : g < gNg τ) (hh : h < gNg τ) : gCt κ mX11_kernOf 4 [.ref (κ.2.1 + 376), .int (nI g), .int (nI h)] σ (.inl (some (.int (gKn τ g h)))) σ 0 := by
  have h24 := hW.ng24
  refine ct_of (by decide +kernel) rfl (Nat.le_of_ble_eq_true rfl) rfl ?_
  by_cases h1 : τ.1 28 (g * 24 + h) = 301
  · have hp := gPo_none hM.mp (i := g) (j := h) (by omega) (by omega) h1
    by_cases h2 : gTC (τ.1 26) (gKx τ g) (gKy τ h) = 0
    · have hv : gKn τ g h = 0 := by
        unfold gKn gKr
        rw [if_pos h1]
        unfold gTC at h2
        split
        · rename_i a b e1 e2
          rw [e1, e2] at h2
          split
          · rfl
          · rename_i h3
            dsimp only at h2
            rw [if_neg h3] at h2
            exact absurd h2 (by decide)
        · rfl
      rw [hv]
      refine go_aload_n (q := 1) (gDec iX11_kernOf_ok 0 rfl) rfl rfl rfl ?_
      refine go_iload_n (q := 2) (gDec iX11_kernOf_ok 1 rfl) rfl rfl rfl ?_
      refine go_iload_n (q := 3) (gDec iX11_kernOf_ok 2 rfl) rfl rfl rfl ?_
      refine go_callV (n2 := 0) (q := 6) kX11_163 (ctX11_pairOf (τ := τ) hM) (gDec iX11_kernOf_ok 3 rfl) rfl rfl (by decide) rfl rfl rfl (Nat.le_of_ble_eq_true rfl) rfl (gFit_rm (by decide) (by decide)) rfl ?_
      refine go_top (v' := -1) (hp) ?_
      refine go_istore_n (q := 7) (gDec iX11_kernOf_ok 4 rfl) rfl (by decide) rfl ?_
      refine go_iload_n (q := 8) (gDec iX11_kernOf_ok 5 rfl) rfl rfl rfl ?_
      refine go_if_lt (t := 25) (q := 11) (gDec iX11_kernOf_ok 6 rfl) (by decide) rfl (fun c8 => ?_) (fun c8 => False.elim (c8 (by decide)))
      refine go_aload_n (q := 26) (gDec iX11_kernOf_ok 18 rfl) rfl rfl rfl ?_
      refine go_iload_n (q := 27) (gDec iX11_kernOf_ok 19 rfl) rfl rfl rfl ?_
      refine go_iload_n (q := 28) (gDec iX11_kernOf_ok 20 rfl) rfl rfl rfl ?_
      refine go_callV (n2 := 0) (q := 31) kX11_169 (ctX11_hasClassKern (τ := τ) hW hM hg hh) (gDec iX11_kernOf_ok 21 rfl) rfl rfl (by decide) rfl rfl rfl (Nat.le_of_ble_eq_true rfl) rfl (gFit_rm (by decide) (by decide)) rfl ?_
      refine go_if_eq (t := 63) (q := 34) (gDec iX11_kernOf_ok 22 rfl) (by decide) rfl (fun c31 => ?_) (fun c31 => False.elim (c31 h2))
      refine go_iconst (v := 0) (q := 64) (gDec iX11_kernOf_ok 40 rfl) (by decide) rfl ?_
      exact go_ireturn (gDec iX11_kernOf_ok 41 rfl) rfl rfl rfl rfl (by decide)
    · obtain ⟨a, b, ha, hb, h3⟩ : ∃ a b, gKx τ g = some a ∧ gKy τ h = some b ∧ ¬ τ.1 26 (a * 6 + b) = 301 := by
        cases e1 : gKx τ g with
        | none => rw [e1] at h2; exact absurd rfl h2
        | some a =>
          cases e2 : gKy τ h with
          | none => rw [e1, e2] at h2; exact absurd rfl h2
          | some b =>
            refine ⟨a, b, rfl, rfl, fun h9 => h2 ?_⟩
            rw [e1, e2]
            exact if_pos h9
      have ha6 := hW.kx6 (g := g) (by omega) a ha
      have hb6 := hW.ky6 (g := h) (by omega) b hb
      have hv : gKn τ g h = τ.1 26 (a * 6 + b) := by
        unfold gKn gKr
        rw [if_pos h1, ha, hb]
        exact if_neg h3
      rw [hv]
      refine go_aload_n (q := 1) (gDec iX11_kernOf_ok 0 rfl) rfl rfl rfl ?_
      refine go_iload_n (q := 2) (gDec iX11_kernOf_ok 1 rfl) rfl rfl rfl ?_
      refine go_iload_n (q := 3) (gDec iX11_kernOf_ok 2 rfl) rfl rfl rfl ?_
      refine go_callV (n2 := 0) (q := 6) kX11_163 (ctX11_pairOf (τ := τ) hM) (gDec iX11_kernOf_ok 3 rfl) rfl rfl (by decide) rfl rfl rfl (Nat.le_of_ble_eq_true rfl) rfl (gFit_rm (by decide) (by decide)) rfl ?_
      refine go_top (v' := -1) (hp) ?_
      refine go_istore_n (q := 7) (gDec iX11_kernOf_ok 4 rfl) rfl (by decide) rfl ?_
      refine go_iload_n (q := 8) (gDec iX11_kernOf_ok 5 rfl) rfl rfl rfl ?_
      refine go_if_lt (t := 25) (q := 11) (gDec iX11_kernOf_ok 6 rfl) (by decide) rfl (fun c8 => ?_) (fun c8 => False.elim (c8 (by decide)))
      refine go_aload_n (q := 26) (gDec iX11_kernOf_ok 18 rfl) rfl rfl rfl ?_
      refine go_iload_n (q := 27) (gDec iX11_kernOf_ok 19 rfl) rfl rfl rfl ?_
      refine go_iload_n (q := 28) (gDec iX11_kernOf_ok 20 rfl) rfl rfl rfl ?_
      refine go_callV (n2 := 0) (q := 31) kX11_169 (ctX11_hasClassKern (τ := τ) hW hM hg hh) (gDec iX11_kernOf_ok 21 rfl) rfl rfl (by decide) rfl rfl rfl (Nat.le_of_ble_eq_true rfl) rfl (gFit_rm (by decide) (by decide)) rfl ?_
      refine go_if_eq (t := 63) (q := 34) (gDec iX11_kernOf_ok 22 rfl) (by decide) rfl (fun c31 => False.elim (h2 c31)) (fun c31 => ?_)
      refine go_aload_n (q := 35) (gDec iX11_kernOf_ok 23 rfl) rfl rfl rfl ?_
      refine go_getr (r' := 377) (q := 38) fX11_9 (gDec iX11_kernOf_ok 24 rfl) rfl (by decide) rfl ?_
      refine go_bipush (v := nI 40) (q := 40) (gDec iX11_kernOf_ok 25 rfl) (by decide) rfl ?_
      refine go_bipush (v := nI 6) (q := 42) (gDec iX11_kernOf_ok 26 rfl) (by decide) rfl ?_
      refine go_aload_n (q := 43) (gDec iX11_kernOf_ok 27 rfl) rfl rfl rfl ?_
      refine go_iload_n (q := 44) (gDec iX11_kernOf_ok 28 rfl) rfl rfl rfl ?_
      refine go_bipush (v := nI 85) (q := 46) (gDec iX11_kernOf_ok 29 rfl) (by decide) rfl ?_
      refine go_callV (n2 := 0) (q := 49) kX11_69 (ctX11_of (g := g) (w := 85) (by omega)) (gDec iX11_kernOf_ok 30 rfl) rfl rfl (by decide) rfl rfl rfl (Nat.le_of_ble_eq_true rfl) rfl (gFit_rm (by decide) (by decide)) rfl ?_
      refine go_top (v' := nI a) ((hM.kx hW hg rfl).trans (by rw [ha]; rfl)) ?_
      refine go_imulN (c := 6 * a) (q := 50) (gDec iX11_kernOf_ok 31 rfl) rfl rfl ?_
      refine go_iaddN (c := 40 + (6 * a)) (q := 51) (gDec iX11_kernOf_ok 32 rfl) rfl rfl ?_
      refine go_aload_n (q := 52) (gDec iX11_kernOf_ok 33 rfl) rfl rfl rfl ?_
      refine go_iload_n (q := 53) (gDec iX11_kernOf_ok 34 rfl) rfl rfl rfl ?_
      refine go_bipush (v := nI 86) (q := 55) (gDec iX11_kernOf_ok 35 rfl) (by decide) rfl ?_
      refine go_callV (n2 := 0) (q := 58) kX11_69 (ctX11_of (g := h) (w := 86) (by omega)) (gDec iX11_kernOf_ok 36 rfl) rfl rfl (by decide) rfl rfl rfl (Nat.le_of_ble_eq_true rfl) rfl (gFit_rm (by decide) (by decide)) rfl ?_
      refine go_top (v' := nI b) ((hM.ky hW hh rfl).trans (by rw [hb]; rfl)) ?_
      refine go_iaddN (c := 40 + (6 * a) + b) (q := 59) (gDec iX11_kernOf_ok 37 rfl) rfl rfl ?_
      refine go_ialdN (q := 60) (gDec iX11_kernOf_ok 38 rfl) rfl (by decide) (by omega) (by decide) rfl ?_
      refine go_top (v' := τ.1 26 (a * 6 + b)) (hM.ck ha6 hb6 h3 rfl) ?_
      refine go_goto (t := 64) (gDec iX11_kernOf_ok 39 rfl) (by decide) ?_
      exact go_ireturn (gDec iX11_kernOf_ok 41 rfl) rfl rfl rfl rfl (by decide)
  · obtain ⟨k, hk, he, hv, -⟩ := gPo_some hM.mp (i := g) (j := h) (by omega) (by omega) h1
    have h40 := hM.mp.n40
    have hv2 : gKn τ g h = τ.1 28 (g * 24 + h) := by unfold gKn gKr; rw [if_neg h1]
    rw [hv2]
    refine go_aload_n (q := 1) (gDec iX11_kernOf_ok 0 rfl) rfl rfl rfl ?_
    refine go_iload_n (q := 2) (gDec iX11_kernOf_ok 1 rfl) rfl rfl rfl ?_
    refine go_iload_n (q := 3) (gDec iX11_kernOf_ok 2 rfl) rfl rfl rfl ?_
    refine go_callV (n2 := 0) (q := 6) kX11_163 (ctX11_pairOf (τ := τ) hM) (gDec iX11_kernOf_ok 3 rfl) rfl rfl (by decide) rfl rfl rfl (Nat.le_of_ble_eq_true rfl) rfl (gFit_rm (by decide) (by decide)) rfl ?_
    refine go_top (v' := nI k) (he) ?_
    refine go_istore_n (q := 7) (gDec iX11_kernOf_ok 4 rfl) rfl (by decide) rfl ?_
    refine go_iload_n (q := 8) (gDec iX11_kernOf_ok 5 rfl) rfl rfl rfl ?_
    refine go_if_lt (t := 25) (q := 11) (gDec iX11_kernOf_ok 6 rfl) (by decide) rfl (fun c8 => False.elim (nI_pos (by omega) c8)) (fun c8 => ?_)
    refine go_aload_n (q := 12) (gDec iX11_kernOf_ok 7 rfl) rfl rfl rfl ?_
    refine go_getr (r' := 377) (q := 15) fX11_9 (gDec iX11_kernOf_ok 8 rfl) rfl (by decide) rfl ?_
    refine go_bipush (v := nI 76) (q := 17) (gDec iX11_kernOf_ok 9 rfl) (by decide) rfl ?_
    refine go_iconst (v := nI 3) (q := 18) (gDec iX11_kernOf_ok 10 rfl) (by decide) rfl ?_
    refine go_iload_n (q := 19) (gDec iX11_kernOf_ok 11 rfl) rfl rfl rfl ?_
    refine go_imulN (c := 3 * k) (q := 20) (gDec iX11_kernOf_ok 12 rfl) rfl rfl ?_
    refine go_iaddN (c := 76 + (3 * k)) (q := 21) (gDec iX11_kernOf_ok 13 rfl) rfl rfl ?_
    refine go_iconst (v := nI 2) (q := 22) (gDec iX11_kernOf_ok 14 rfl) (by decide) rfl ?_
    refine go_iaddN (c := 76 + (3 * k) + 2) (q := 23) (gDec iX11_kernOf_ok 15 rfl) rfl rfl ?_
    refine go_ialdN (q := 24) (gDec iX11_kernOf_ok 16 rfl) rfl (by decide) (by omega) (by decide) rfl ?_
    refine go_top (v' := τ.1 28 (g * 24 + h)) (hv) ?_
    exact go_ireturn (gDec iX11_kernOf_ok 17 rfl) rfl rfl rfl rfl (by decide)

set_option maxHeartbeats 4000000 in
set_option maxRecDepth 100000 in
theorem lpX11_classKerns {κ : gK} {Z : gZ} {σ : gST} {τ : gST} (hM : gMR τ (σ.1 377)) : ∀ (m i : Nat) (a : Int32), i + m = (35 + 1) → Go κ mX11_classKerns (gRm 1 0) Z 27 [(0, .ref (κ.2.1 + 376)), (1, .int (gLoop (fun k a => a + (if τ.1 26 k = 301 then 0 else 1)) i m a)), (2, .int (nI (35 + 1)))] [] σ 0 → Go κ mX11_classKerns (gRm 1 0) Z 4 [(0, .ref (κ.2.1 + 376)), (1, .int a), (2, .int (nI i))] [] σ 0 := by
  intro m
  induction m with
  | zero =>
    intro i a hi h
    have hiN : (35 + 1) = i := by omega
    rw [hiN] at h
    refine go_iload_n (q := 5) (gDec iX11_classKerns_ok 4 rfl) rfl rfl rfl ?_
    refine go_bipush (v := nI 36) (q := 7) (gDec iX11_classKerns_ok 5 rfl) (by decide) rfl ?_
    refine go_icmp_ge (t := 27) (q := 10) (gDec iX11_classKerns_ok 6 rfl) (by decide) rfl (fun c7 => ?_) (fun c7 => False.elim (c7 (nI_le (a := 36) (b := i) (by omega) (by omega))))
    refine go_sub (L' := [(0, .ref (κ.2.1 + 376)), (1, .int a), (2, .int (nI i))]) ⟨rfl, rfl, rfl, trivial⟩ ?_
    exact h
  | succ m ih =>
    intro i a hi h
    refine go_iload_n (q := 5) (gDec iX11_classKerns_ok 4 rfl) rfl rfl rfl ?_
    refine go_bipush (v := nI 36) (q := 7) (gDec iX11_classKerns_ok 5 rfl) (by decide) rfl ?_
    refine go_icmp_ge (t := 27) (q := 10) (gDec iX11_classKerns_ok 6 rfl) (by decide) rfl (fun c7 => False.elim (nI_ge (a := i) (b := 36) (by omega) (by decide) c7)) (fun c7 => ?_)
    refine go_iload_n (q := 11) (gDec iX11_classKerns_ok 7 rfl) rfl rfl rfl ?_
    refine go_aload_n (q := 12) (gDec iX11_classKerns_ok 8 rfl) rfl rfl rfl ?_
    refine go_getr (r' := 377) (q := 15) fX11_9 (gDec iX11_classKerns_ok 9 rfl) rfl (by decide) rfl ?_
    refine go_iconst (v := nI 4) (q := 16) (gDec iX11_classKerns_ok 10 rfl) (by decide) rfl ?_
    refine go_iload_n (q := 17) (gDec iX11_classKerns_ok 11 rfl) rfl rfl rfl ?_
    refine go_iaddN (c := 4 + i) (q := 18) (gDec iX11_classKerns_ok 12 rfl) rfl rfl ?_
    refine go_ialdN (q := 19) (gDec iX11_classKerns_ok 13 rfl) rfl (by decide) (by omega) (by decide) rfl ?_
    refine go_top (v' := (if τ.1 26 i = 301 then 0 else 1)) ((hM.2.1 i (by omega)).1) ?_
    refine go_iadd (q := 20) (gDec iX11_classKerns_ok 14 rfl) rfl ?_
    refine go_istore_n (q := 21) (gDec iX11_classKerns_ok 15 rfl) rfl (by decide) rfl ?_
    refine go_iinc (v := nI (i + 1)) (q := 24) (gDec iX11_classKerns_ok 16 rfl) rfl (nI_1 _) (by decide) rfl ?_
    refine go_goto (t := 4) (gDec iX11_classKerns_ok 17 rfl) (by decide) ?_
    refine go_sub (L' := [(0, .ref (κ.2.1 + 376)), (1, .int ((fun k a => a + (if τ.1 26 k = 301 then 0 else 1)) i a)), (2, .int (nI (i + 1)))]) ⟨rfl, rfl, rfl, trivial⟩ ?_
    exact ih (i + 1) ((fun k a => a + (if τ.1 26 k = 301 then 0 else 1)) i a) (by omega) h

set_option maxHeartbeats 4000000 in
set_option maxRecDepth 100000 in
theorem ctX11_classKerns {κ : gK} {σ : gST} {τ : gST} (hM : gMR τ (σ.1 377)) : gCt κ mX11_classKerns 1 [.ref (κ.2.1 + 376)] σ (.inl (some (.int (gLoop (fun k a => a + (if τ.1 26 k = 301 then 0 else 1)) 0 36 0)))) σ 0 := by
  refine ct_of (by decide +kernel) rfl (Nat.le_of_ble_eq_true rfl) rfl ?_
  refine go_iconst (v := 0) (q := 1) (gDec iX11_classKerns_ok 0 rfl) (by decide) rfl ?_
  refine go_istore_n (q := 2) (gDec iX11_classKerns_ok 1 rfl) rfl (by decide) rfl ?_
  refine go_iconst (v := nI 0) (q := 3) (gDec iX11_classKerns_ok 2 rfl) (by decide) rfl ?_
  refine go_istore_n (q := 4) (gDec iX11_classKerns_ok 3 rfl) rfl (by decide) rfl ?_
  refine go_sub (L' := [(0, .ref (κ.2.1 + 376)), (1, .int 0), (2, .int (nI 0))]) ⟨rfl, rfl, rfl, trivial⟩ ?_
  refine lpX11_classKerns hM 36 0 0 rfl ?_
  refine go_iload_n (q := 28) (gDec iX11_classKerns_ok 18 rfl) rfl rfl rfl ?_
  exact go_ireturn (gDec iX11_classKerns_ok 19 rfl) rfl rfl rfl rfl (by decide)
