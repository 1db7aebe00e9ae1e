/-- what an entry of the proof is wide -/
def pWO (τ : gST) : Option Nat → Int32
  | none => τ.1 1 5
  | some g => gAdv τ g
def pKO (τ : gST) : Option Nat → Option Nat → Int32
  | some g, some h => gKn τ g h
  | _, _ => 0
/-- from an entry to the next -/
def pSO (τ : gST) (a b : Option Nat) : Int32 := pWO τ a + τ.1 1 4 + pKO τ a b
def pP (τ : gST) (i : Nat) : Option Nat := oA (τ.1 365 i)
def pBgS (τ : gST) (i : Nat) (a : Int32) : Int32 := a + pSO τ (pP τ i) (pP τ (i + 1))
/-- where an entry begins -/
def pBg (τ : gST) (n : Nat) : Int32 := gLoop (pBgS τ) 0 n 0
theorem pBg_s (τ : gST) (n : Nat) : pBg τ (n + 1) = pBg τ n + pSO τ (pP τ n) (pP τ (n + 1)) := by
  unfold pBg
  rw [gLoop_add, Nat.zero_add]
  rfl
def pO (n : Nat) (a : Option Nat) : Prop := ∀ g, a = some g → g < n
theorem nI_pos'' {n : Nat} (h : n < 2 ^ 31) : 0 ≤ nI n := Int32.not_lt.mp (nI_pos h)
theorem gAll.p9 {τ σ : gST} (h : gAll τ σ) {i : Nat} (hi : i < gPl_ τ) : σ.1 381 i = lI (pP τ i) ∧ pO (gNg τ) (pP τ i) := by
  have h60 := h.cb.2.2.1.pl60
  refine ⟨(h.br.2.1.2 i hi).trans (h.cb.2.2.1.gl (by omega)), fun g hg => ?_⟩
  have h1 := h.cb.2.2.2.2 i hi
  unfold pP oA at hg
  split at hg
  · cases hg
  · cases hg; omega
theorem gAll.pn {τ σ : gST} (h : gAll τ σ) : σ.1 376 9 = nI (gPl_ τ) := h.br.2.1.1.trans h.cb.2.2.1.pl

set_option maxHeartbeats 4000000 in
set_option maxRecDepth 100000 in
theorem ctX11_widthOf {κ : gK} {σ τ : gST} {a : Option Nat} (hC : gCI τ) (hM : gMR τ (σ.1 377)) (ha : pO (gNg τ) a) : gCt κ mX11_widthOf 5 [.ref (κ.2.1 + 376), .int (lI a)] σ (.inl (some (.int (pWO τ a)))) σ 0 := by
  have h24 := hC.dw.ng24
  cases a with
  | none =>
    show gCt κ mX11_widthOf 5 [.ref (κ.2.1 + 376), .int (-1)] σ (.inl (some (.int (τ.1 1 5)))) σ 0
    refine ct_of (by decide +kernel) rfl (Nat.le_of_ble_eq_true rfl) rfl ?_
    refine go_iload_n (q := 1) (gDec iX11_widthOf_ok 0 rfl) rfl rfl rfl ?_
    refine go_if_ge (t := 13) (q := 4) (gDec iX11_widthOf_ok 1 rfl) (by decide) rfl (fun c1 => False.elim (absurd c1 (by decide))) (fun c1 => ?_)
    refine go_aload_n (q := 5) (gDec iX11_widthOf_ok 2 rfl) rfl rfl rfl ?_
    refine go_getr (r' := 377) (q := 8) fX11_9 (gDec iX11_widthOf_ok 3 rfl) rfl (by decide) rfl ?_
    refine go_iconst (v := nI 2) (q := 9) (gDec iX11_widthOf_ok 4 rfl) (by decide) rfl ?_
    refine go_ialdN (q := 10) (gDec iX11_widthOf_ok 5 rfl) rfl (by decide) (by omega) (by decide) rfl ?_
    refine go_top (v' := τ.1 1 5) (hM.1.2.2.1) ?_
    refine go_goto (t := 18) (gDec iX11_widthOf_ok 6 rfl) (by decide) ?_
    exact go_ireturn (gDec iX11_widthOf_ok 10 rfl) rfl rfl rfl rfl (by decide)
  | some g =>
    have hg := ha g rfl
    show gCt κ mX11_widthOf 5 [.ref (κ.2.1 + 376), .int (nI g)] σ (.inl (some (.int (gAdv τ g)))) σ 0
    refine ct_of (by decide +kernel) rfl (Nat.le_of_ble_eq_true rfl) rfl ?_
    refine go_iload_n (q := 1) (gDec iX11_widthOf_ok 0 rfl) rfl rfl rfl ?_
    refine go_if_ge (t := 13) (q := 4) (gDec iX11_widthOf_ok 1 rfl) (by decide) rfl (fun c1 => ?_) (fun c1 => False.elim (c1 (nI_pos'' (by omega))))
    refine go_aload_n (q := 14) (gDec iX11_widthOf_ok 7 rfl) rfl rfl rfl ?_
    refine go_iload_n (q := 15) (gDec iX11_widthOf_ok 8 rfl) rfl rfl rfl ?_
    refine go_callV (n2 := 0) (q := 18) kX11_129 (ctX11_advance (τ := τ) hC hM hg) (gDec iX11_widthOf_ok 9 rfl) rfl rfl (by decide) rfl rfl rfl (Nat.le_of_ble_eq_true rfl) rfl (gFit_rm (by decide) (by decide)) rfl ?_
    exact go_ireturn (gDec iX11_widthOf_ok 10 rfl) rfl rfl rfl rfl (by decide)

set_option maxHeartbeats 4000000 in
set_option maxRecDepth 100000 in
theorem ctX11_stepOver {κ : gK} {σ τ : gST} {a b : Option Nat} (hC : gCI τ) (hM : gMR τ (σ.1 377)) (ha : pO (gNg τ) a) (hb : pO (gNg τ) b) : gCt κ mX11_stepOver 6 [.ref (κ.2.1 + 376), .int (lI a), .int (lI b)] σ (.inl (some (.int (pSO τ a b)))) σ 0 := by
  have h24 := hC.dw.ng24
  cases a with
  | none =>
    show gCt κ mX11_stepOver 6 [.ref (κ.2.1 + 376), .int (-1), .int (lI b)] σ (.inl (some (.int (τ.1 1 5 + τ.1 1 4 + 0)))) σ 0
    refine ct_of (by decide +kernel) rfl (Nat.le_of_ble_eq_true rfl) rfl ?_
    refine go_aload_n (q := 1) (gDec iX11_stepOver_ok 0 rfl) rfl rfl rfl ?_
    refine go_iload_n (q := 2) (gDec iX11_stepOver_ok 1 rfl) rfl rfl rfl ?_
    refine go_callV (n2 := 0) (q := 5) kX11_203 (ctX11_widthOf (τ := τ) (a := none) hC hM ha) (gDec iX11_stepOver_ok 2 rfl) rfl rfl (by decide) rfl rfl rfl (Nat.le_of_ble_eq_true rfl) rfl (gFit_rm (by decide) (by decide)) rfl ?_
    refine go_aload_n (q := 6) (gDec iX11_stepOver_ok 3 rfl) rfl rfl rfl ?_
    refine go_getr (r' := 377) (q := 9) fX11_9 (gDec iX11_stepOver_ok 4 rfl) rfl (by decide) rfl ?_
    refine go_iconst (v := nI 1) (q := 10) (gDec iX11_stepOver_ok 5 rfl) (by decide) rfl ?_
    refine go_ialdN (q := 11) (gDec iX11_stepOver_ok 6 rfl) rfl (by decide) (by omega) (by decide) rfl ?_
    refine go_top (v' := τ.1 1 4) (hM.1.2.1) ?_
    refine go_iadd (q := 12) (gDec iX11_stepOver_ok 7 rfl) rfl ?_
    refine go_iload_n (q := 13) (gDec iX11_stepOver_ok 8 rfl) rfl rfl rfl ?_
    refine go_if_lt (t := 29) (q := 16) (gDec iX11_stepOver_ok 9 rfl) (by decide) rfl (fun c13 => ?_) (fun c13 => False.elim (c13 (by decide)))
    refine go_iconst (v := 0) (q := 30) (gDec iX11_stepOver_ok 17 rfl) (by decide) rfl ?_
    refine go_iadd (q := 31) (gDec iX11_stepOver_ok 18 rfl) rfl ?_
    exact go_ireturn (gDec iX11_stepOver_ok 19 rfl) rfl rfl rfl rfl (by decide)
  | some g =>
    have hg := ha g rfl
    cases b with
    | none =>
      show gCt κ mX11_stepOver 6 [.ref (κ.2.1 + 376), .int (nI g), .int (-1)] σ (.inl (some (.int (gAdv τ g + τ.1 1 4 + 0)))) σ 0
      refine ct_of (by decide +kernel) rfl (Nat.le_of_ble_eq_true rfl) rfl ?_
      refine go_aload_n (q := 1) (gDec iX11_stepOver_ok 0 rfl) rfl rfl rfl ?_
      refine go_iload_n (q := 2) (gDec iX11_stepOver_ok 1 rfl) rfl rfl rfl ?_
      refine go_callV (n2 := 0) (q := 5) kX11_203 (ctX11_widthOf (τ := τ) (a := (some g)) hC hM ha) (gDec iX11_stepOver_ok 2 rfl) rfl rfl (by decide) rfl rfl rfl (Nat.le_of_ble_eq_true rfl) rfl (gFit_rm (by decide) (by decide)) rfl ?_
      refine go_aload_n (q := 6) (gDec iX11_stepOver_ok 3 rfl) rfl rfl rfl ?_
      refine go_getr (r' := 377) (q := 9) fX11_9 (gDec iX11_stepOver_ok 4 rfl) rfl (by decide) rfl ?_
      refine go_iconst (v := nI 1) (q := 10) (gDec iX11_stepOver_ok 5 rfl) (by decide) rfl ?_
      refine go_ialdN (q := 11) (gDec iX11_stepOver_ok 6 rfl) rfl (by decide) (by omega) (by decide) rfl ?_
      refine go_top (v' := τ.1 1 4) (hM.1.2.1) ?_
      refine go_iadd (q := 12) (gDec iX11_stepOver_ok 7 rfl) rfl ?_
      refine go_iload_n (q := 13) (gDec iX11_stepOver_ok 8 rfl) rfl rfl rfl ?_
      refine go_if_lt (t := 29) (q := 16) (gDec iX11_stepOver_ok 9 rfl) (by decide) rfl (fun c13 => False.elim (nI_pos (by omega) c13)) (fun c13 => ?_)
      refine go_iload_n (q := 17) (gDec iX11_stepOver_ok 10 rfl) rfl rfl rfl ?_
      refine go_if_lt (t := 29) (q := 20) (gDec iX11_stepOver_ok 11 rfl) (by decide) rfl (fun c17 => ?_) (fun c17 => False.elim (c17 (by decide)))
      refine go_iconst (v := 0) (q := 30) (gDec iX11_stepOver_ok 17 rfl) (by decide) rfl ?_
      refine go_iadd (q := 31) (gDec iX11_stepOver_ok 18 rfl) rfl ?_
      exact go_ireturn (gDec iX11_stepOver_ok 19 rfl) rfl rfl rfl rfl (by decide)
    | some h =>
      have hh := hb h rfl
      show gCt κ mX11_stepOver 6 [.ref (κ.2.1 + 376), .int (nI g), .int (nI h)] σ (.inl (some (.int (gAdv τ g + τ.1 1 4 + gKn τ g h)))) σ 0
      refine ct_of (by decide +kernel) rfl (Nat.le_of_ble_eq_true rfl) rfl ?_
      refine go_aload_n (q := 1) (gDec iX11_stepOver_ok 0 rfl) rfl rfl rfl ?_
      refine go_iload_n (q := 2) (gDec iX11_stepOver_ok 1 rfl) rfl rfl rfl ?_
      refine go_callV (n2 := 0) (q := 5) kX11_203 (ctX11_widthOf (τ := τ) (a := (some g)) hC hM ha) (gDec iX11_stepOver_ok 2 rfl) rfl rfl (by decide) rfl rfl rfl (Nat.le_of_ble_eq_true rfl) rfl (gFit_rm (by decide) (by decide)) rfl ?_
      refine go_aload_n (q := 6) (gDec iX11_stepOver_ok 3 rfl) rfl rfl rfl ?_
      refine go_getr (r' := 377) (q := 9) fX11_9 (gDec iX11_stepOver_ok 4 rfl) rfl (by decide) rfl ?_
      refine go_iconst (v := nI 1) (q := 10) (gDec iX11_stepOver_ok 5 rfl) (by decide) rfl ?_
      refine go_ialdN (q := 11) (gDec iX11_stepOver_ok 6 rfl) rfl (by decide) (by omega) (by decide) rfl ?_
      refine go_top (v' := τ.1 1 4) (hM.1.2.1) ?_
      refine go_iadd (q := 12) (gDec iX11_stepOver_ok 7 rfl) rfl ?_
      refine go_iload_n (q := 13) (gDec iX11_stepOver_ok 8 rfl) rfl rfl rfl ?_
      refine go_if_lt (t := 29) (q := 16) (gDec iX11_stepOver_ok 9 rfl) (by decide) rfl (fun c13 => False.elim (nI_pos (by omega) c13)) (fun c13 => ?_)
      refine go_iload_n (q := 17) (gDec iX11_stepOver_ok 10 rfl) rfl rfl rfl ?_
      refine go_if_lt (t := 29) (q := 20) (gDec iX11_stepOver_ok 11 rfl) (by decide) rfl (fun c17 => False.elim (nI_pos (by omega) c17)) (fun c17 => ?_)
      refine go_aload_n (q := 21) (gDec iX11_stepOver_ok 12 rfl) rfl rfl rfl ?_
      refine go_iload_n (q := 22) (gDec iX11_stepOver_ok 13 rfl) rfl rfl rfl ?_
      refine go_iload_n (q := 23) (gDec iX11_stepOver_ok 14 rfl) rfl rfl rfl ?_
      refine go_callV (n2 := 0) (q := 26) kX11_172 (ctX11_kernOf (τ := τ) hC.dw hM hg hh) (gDec iX11_stepOver_ok 15 rfl) rfl rfl (by decide) rfl rfl rfl (Nat.le_of_ble_eq_true rfl) rfl (gFit_rm (by decide) (by decide)) rfl ?_
      refine go_goto (t := 30) (gDec iX11_stepOver_ok 16 rfl) (by decide) ?_
      refine go_iadd (q := 31) (gDec iX11_stepOver_ok 18 rfl) rfl ?_
      exact go_ireturn (gDec iX11_stepOver_ok 19 rfl) rfl rfl rfl rfl (by decide)

set_option maxHeartbeats 4000000 in
set_option maxRecDepth 100000 in
theorem lpX11_begins {κ : gK} {Z : gZ} {σ : gST} {τ : gST} {n : Nat} (hC : gCI τ) (hM : gMR τ (σ.1 377)) (h60 : n < 60) (hp : ∀ i, i ≤ n → σ.1 381 i = lI (pP τ i) ∧ pO (gNg τ) (pP τ i)) : ∀ (m i : Nat) (a : Int32), i + m = n → Go κ mX11_begins (gRm 7 0) Z 36 [(0, .ref (κ.2.1 + 376)), (1, .int (nI n)), (2, .int (gLoop (pBgS τ) i m a)), (3, .int (nI n))] [] σ 0 → Go κ mX11_begins (gRm 7 0) Z 4 [(0, .ref (κ.2.1 + 376)), (1, .int (nI n)), (2, .int a), (3, .int (nI i))] [] σ 0 := by
  intro m
  induction m with
  | zero =>
    intro i a hi h
    have hiN : n = i := by omega
    subst hiN
    refine go_iload_n (q := 5) (gDec iX11_begins_ok 4 rfl) rfl rfl rfl ?_
    refine go_iload_n (q := 6) (gDec iX11_begins_ok 5 rfl) rfl rfl rfl ?_
    refine go_icmp_ge (t := 36) (q := 9) (gDec iX11_begins_ok 6 rfl) (by decide) rfl (fun c6 => ?_) (fun c6 => False.elim (c6 (Int32.le_refl _)))
    refine go_sub (L' := [(0, .ref (κ.2.1 + 376)), (1, .int (nI n)), (2, .int a), (3, .int (nI n))]) ⟨rfl, rfl, rfl, rfl, trivial⟩ ?_
    exact h
  | succ m ih =>
    intro i a hi h
    refine go_iload_n (q := 5) (gDec iX11_begins_ok 4 rfl) rfl rfl rfl ?_
    refine go_iload_n (q := 6) (gDec iX11_begins_ok 5 rfl) rfl rfl rfl ?_
    refine go_icmp_ge (t := 36) (q := 9) (gDec iX11_begins_ok 6 rfl) (by decide) rfl (fun c6 => False.elim (nI_ge (a := i) (b := n) (by omega) (by omega) c6)) (fun c6 => ?_)
    refine go_iload_n (q := 10) (gDec iX11_begins_ok 7 rfl) rfl rfl rfl ?_
    refine go_aload_n (q := 11) (gDec iX11_begins_ok 8 rfl) rfl rfl rfl ?_
    refine go_aload_n (q := 12) (gDec iX11_begins_ok 9 rfl) rfl rfl rfl ?_
    refine go_getr (r' := 381) (q := 15) fX11_23 (gDec iX11_begins_ok 10 rfl) rfl (by decide) rfl ?_
    refine go_iload_n (q := 16) (gDec iX11_begins_ok 11 rfl) rfl rfl rfl ?_
    refine go_ialdN (q := 17) (gDec iX11_begins_ok 12 rfl) rfl (by decide) (by omega) (by decide) rfl ?_
    refine go_top (v' := lI (pP τ i)) ((hp i (by omega)).1) ?_
    refine go_aload_n (q := 18) (gDec iX11_begins_ok 13 rfl) rfl rfl rfl ?_
    refine go_getr (r' := 381) (q := 21) fX11_23 (gDec iX11_begins_ok 14 rfl) rfl (by decide) rfl ?_
    refine go_iload_n (q := 22) (gDec iX11_begins_ok 15 rfl) rfl rfl rfl ?_
    refine go_iconst (v := nI 1) (q := 23) (gDec iX11_begins_ok 16 rfl) (by decide) rfl ?_
    refine go_iaddN (c := i + 1) (q := 24) (gDec iX11_begins_ok 17 rfl) rfl rfl ?_
    refine go_ialdN (q := 25) (gDec iX11_begins_ok 18 rfl) rfl (by decide) (by omega) (by decide) rfl ?_
    refine go_top (v' := lI (pP τ (i + 1))) ((hp (i + 1) (by omega)).1) ?_
    refine go_callV (n2 := 0) (q := 28) kX11_206 (ctX11_stepOver (τ := τ) hC hM (hp i (by omega)).2 (hp (i + 1) (by omega)).2) (gDec iX11_begins_ok 19 rfl) rfl rfl (by decide) rfl rfl rfl (Nat.le_of_ble_eq_true rfl) rfl (gFit_rm (by decide) (by decide)) rfl ?_
    refine go_iadd (q := 29) (gDec iX11_begins_ok 20 rfl) rfl ?_
    refine go_istore_n (q := 30) (gDec iX11_begins_ok 21 rfl) rfl (by decide) rfl ?_
    refine go_iinc (v := nI (i + 1)) (q := 33) (gDec iX11_begins_ok 22 rfl) rfl (nI_1 _) (by decide) rfl ?_
    refine go_goto (t := 4) (gDec iX11_begins_ok 23 rfl) (by decide) ?_
    refine go_sub (L' := [(0, .ref (κ.2.1 + 376)), (1, .int (nI n)), (2, .int ((pBgS τ) i a)), (3, .int (nI (i + 1)))]) ⟨rfl, rfl, rfl, rfl, trivial⟩ ?_
    exact ih (i + 1) ((pBgS τ) i a) (by omega) h

set_option maxHeartbeats 4000000 in
set_option maxRecDepth 100000 in
theorem ctX11_begins {κ : gK} {σ : gST} {τ : gST} {n : Nat} (hC : gCI τ) (hM : gMR τ (σ.1 377)) (h60 : n < 60) (hp : ∀ i, i ≤ n → σ.1 381 i = lI (pP τ i) ∧ pO (gNg τ) (pP τ i)) : gCt κ mX11_begins 7 [.ref (κ.2.1 + 376), .int (nI n)] σ (.inl (some (.int (pBg τ n)))) σ 0 := by
  refine ct_of (by decide +kernel) rfl (Nat.le_of_ble_eq_true rfl) rfl ?_
  refine go_iconst (v := 0) (q := 1) (gDec iX11_begins_ok 0 rfl) (by decide) rfl ?_
  refine go_istore_n (q := 2) (gDec iX11_begins_ok 1 rfl) rfl (by decide) rfl ?_
  refine go_iconst (v := nI 0) (q := 3) (gDec iX11_begins_ok 2 rfl) (by decide) rfl ?_
  refine go_istore_n (q := 4) (gDec iX11_begins_ok 3 rfl) rfl (by decide) rfl ?_
  refine go_sub (L' := [(0, .ref (κ.2.1 + 376)), (1, .int (nI n)), (2, .int 0), (3, .int (nI 0))]) ⟨rfl, rfl, rfl, rfl, trivial⟩ ?_
  refine lpX11_begins hC hM h60 hp n 0 0 (by omega) ?_
  refine go_iload_n (q := 37) (gDec iX11_begins_ok 24 rfl) rfl rfl rfl ?_
  exact go_ireturn (gDec iX11_begins_ok 25 rfl) rfl rfl rfl rfl (by decide)
