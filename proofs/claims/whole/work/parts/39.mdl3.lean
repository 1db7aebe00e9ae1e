/-- the chain from a ends after at most f rules -/
def gEn (ld : Nat → Option Nat) : Nat → Nat → Prop
  | 0, a => ld a = none
  | f + 1, a => ∀ b, ld a = some b → gEn ld f b
def gLW (τ : gST) : Prop := (∀ a b, a < 2 * gNg τ → gLe τ a = some b → b < 2 * gNg τ) ∧ (∀ a, a < 2 * gNg τ → gEn (gLe τ) 47 a) ∧ (∀ a, 2 * gNg τ ≤ a → a < 48 → gLe τ a = none)
/-- points -/
def gPO (τ : gST) : Prop := (∀ g c, g < gNg τ → c < gNc τ g → 3 ≤ gNp τ g c) ∧
  ∀ g c p, g < gNg τ → c < gNc τ g → p < gNp τ g c → (-200 ≤ (τ.1 10 ((g * 3 + c) * 12 + p)).toInt ∧ (τ.1 10 ((g * 3 + c) * 12 + p)).toInt ≤ 1200) ∧ (-200 ≤ (τ.1 12 ((g * 3 + c) * 12 + p)).toInt ∧ (τ.1 12 ((g * 3 + c) * 12 + p)).toInt ≤ 1200)
/-- codes; what stands where no glyph is -/
def gGW (τ : gST) : Prop := (∀ g, g < gNg τ → 33 ≤ (τ.1 4 g).toInt ∧ (τ.1 4 g).toInt ≤ 126) ∧
  ∀ g, gNg τ ≤ g → g < 24 → τ.1 6 g = 0 ∧ τ.1 31 g = 0 ∧ τ.1 22 g = -1 ∧ τ.1 24 g = -1 ∧ ∀ t, t < 2 → τ.1 15 (g * 2 + t) = 50
/-- stems -/
def gSW (τ : gST) : Prop := ∀ g, g < gNg τ → (∀ k, k < gNs τ g → -200 ≤ (τ.1 33 (g * 4 + k)).toInt ∧ (τ.1 33 (g * 4 + k)).toInt < (τ.1 35 (g * 4 + k)).toInt ∧ (τ.1 35 (g * 4 + k)).toInt ≤ 1200) ∧
  ∀ k, k + 1 < gNs τ g → (τ.1 35 (g * 4 + k)).toInt < (τ.1 33 (g * 4 + (k + 1))).toInt
/-- kerns -/
def gKW (τ : gST) : Prop := (∀ k, k < 36 → τ.1 26 k = 301 ∨ (-300 ≤ (τ.1 26 k).toInt ∧ (τ.1 26 k).toInt ≤ 300)) ∧ (∀ k, k < 576 → τ.1 28 k = 301 ∨ (-300 ≤ (τ.1 28 k).toInt ∧ (τ.1 28 k).toInt ≤ 300)) ∧
  τ.1 20 4 = gLoop (fun k a => a + (if τ.1 26 k = 301 then 0 else 1)) 0 36 0 ∧ (0 ≤ (τ.1 20 5).toInt ∧ (τ.1 20 5).toInt ≤ 40) ∧
  ((-100 ≤ (τ.1 1 4).toInt ∧ (τ.1 1 4).toInt ≤ 200) ∧ (50 ≤ (τ.1 1 5).toInt ∧ (τ.1 1 5).toInt ≤ 1000))
def gCI (τ : gST) : Prop := gDW τ ∧ gLW τ ∧ gPO τ ∧ gGW τ ∧ gSW τ ∧ gKW τ
section gCIs
variable {τ : gST}
theorem gCI.dw (h : gCI τ) : gDW τ := h.1
theorem gCI.lw (h : gCI τ) : gLW τ := h.2.1
theorem gCI.po (h : gCI τ) : gPO τ := h.2.2.1
theorem gCI.gw (h : gCI τ) : gGW τ := h.2.2.2.1
theorem gCI.sw (h : gCI τ) : gSW τ := h.2.2.2.2.1
theorem gCI.kw (h : gCI τ) : gKW τ := h.2.2.2.2.2
end gCIs
theorem gMR.lg2 {τ : gST} {s : Nat → Int32} (h : gMR τ s) {b : Nat} (hb : b < 2 * gNg τ) : s (196 + 96 * (b / 2) + (77 + 4 * (b % 2) + 1)) = lI ((gLe τ b).map (fun b => b / 2)) := by
  have h1 := h.lg (g := b / 2) (t := b % 2) (by omega) (by omega) rfl
  rw [h1, show b / 2 * 2 + b % 2 = b by omega]
theorem gMR.ls2 {τ : gST} {s : Nat → Int32} (h : gMR τ s) {b f : Nat} (hb : b < 2 * gNg τ) (hf : gLe τ b = some f) : s (196 + 96 * (b / 2) + (77 + 4 * (b % 2) + 2)) = nI (f % 2) :=
  h.ls (g := b / 2) (t := b % 2) (by omega) (by omega) (by rw [show b / 2 * 2 + b % 2 = b by omega]; exact hf) rfl
theorem gMR.df2 {τ : gST} {s : Nat → Int32} (h : gMR τ s) {b f : Nat} (hb : b < 2 * gNg τ) (hf : gLe τ b = some f) : s (196 + 96 * (b / 2) + (77 + 4 * (b % 2) + 3)) = τ.1 19 b := by
  have h1 := h.df (g := b / 2) (t := b % 2) (b := f) (by omega) (by omega) (by rw [show b / 2 * 2 + b % 2 = b by omega]; exact hf) rfl
  rw [h1, show b / 2 * 2 + b % 2 = b by omega]
theorem gMR.td2 {τ : gST} {s : Nat → Int32} (h : gMR τ s) {b : Nat} (hb : b < 2 * gNg τ) : s (196 + 96 * (b / 2) + (77 + 4 * (b % 2) + 0)) = τ.1 15 b := by
  have h1 := h.td (g := b / 2) (t := b % 2) (by omega) (by omega) rfl
  rw [show b / 2 * 2 + b % 2 = b by omega] at h1
  exact h1
theorem gBeq {a t : Nat} (h : ¬ a = t) : Nat.beq a t = false := by
  cases hb : Nat.beq a t with
  | false => rfl
  | true => exact absurd (Nat.eq_of_beq_eq_true hb) h
theorem lI_nn {b : Nat} (h : b < 2 ^ 31) : ¬ lI (some b) < 0 := nI_pos h

set_option maxHeartbeats 4000000 in
set_option maxRecDepth 100000 in
theorem ctX11_followed {κ : gK} {σ τ : gST} {b : Nat} (hC : gCI τ) (hM : gMR τ (σ.1 377)) (hb : b < 2 * gNg τ) : gCt κ mX11_followed 2 [.ref (κ.2.1 + 376), .int (nI b)] σ (.inl (some (.int (lI (gLe τ b))))) σ 0 := by
  have hW := hC.dw
  have h24 := hW.ng24
  refine ct_of (by decide +kernel) rfl (Nat.le_of_ble_eq_true rfl) rfl ?_
  cases hf : gLe τ b with
  | none =>
    have h1 : σ.1 377 (196 + 96 * (b / 2) + (77 + 4 * (b % 2) + 1)) = -1 := by rw [hM.lg2 hb, hf]; rfl
    refine go_aload_n (q := 1) (gDec iX11_followed_ok 0 rfl) rfl rfl rfl ?_
    refine go_getr (r' := 377) (q := 4) fX11_9 (gDec iX11_followed_ok 1 rfl) rfl (by decide) rfl ?_
    refine go_iload_n (q := 5) (gDec iX11_followed_ok 2 rfl) rfl rfl rfl ?_
    refine go_iconst (v := nI 1) (q := 6) (gDec iX11_followed_ok 3 rfl) (by decide) rfl ?_
    refine go_callS (n2 := 0) (q := 9) kX11_135 (ctX11_sideAt (b := b) (w := 1) (by omega)) (gDec iX11_followed_ok 4 rfl) rfl rfl (Nat.le_of_ble_eq_true rfl) rfl (gFit_rm (by decide) (by decide)) rfl ?_
    refine go_ialdN (q := 10) (gDec iX11_followed_ok 5 rfl) rfl (by decide) (by omega) (by decide) rfl ?_
    refine go_top (v' := -1) (h1) ?_
    refine go_istore_n (q := 11) (gDec iX11_followed_ok 6 rfl) rfl (by decide) rfl ?_
    refine go_iload_n (q := 12) (gDec iX11_followed_ok 7 rfl) rfl rfl rfl ?_
    refine go_if_ge (t := 19) (q := 15) (gDec iX11_followed_ok 8 rfl) (by decide) rfl (fun c12 => False.elim (absurd c12 (by decide))) (fun c12 => ?_)
    refine go_iconst (v := (-1)) (q := 16) (gDec iX11_followed_ok 9 rfl) (by decide) rfl ?_
    refine go_goto (t := 33) (gDec iX11_followed_ok 10 rfl) (by decide) ?_
    exact go_ireturn (gDec iX11_followed_ok 21 rfl) rfl rfl rfl rfl (by decide)
  | some f =>
    have hf2 := hC.lw.1 b f hb hf
    have h1 : σ.1 377 (196 + 96 * (b / 2) + (77 + 4 * (b % 2) + 1)) = nI (f / 2) := by rw [hM.lg2 hb, hf]; rfl
    refine go_aload_n (q := 1) (gDec iX11_followed_ok 0 rfl) rfl rfl rfl ?_
    refine go_getr (r' := 377) (q := 4) fX11_9 (gDec iX11_followed_ok 1 rfl) rfl (by decide) rfl ?_
    refine go_iload_n (q := 5) (gDec iX11_followed_ok 2 rfl) rfl rfl rfl ?_
    refine go_iconst (v := nI 1) (q := 6) (gDec iX11_followed_ok 3 rfl) (by decide) rfl ?_
    refine go_callS (n2 := 0) (q := 9) kX11_135 (ctX11_sideAt (b := b) (w := 1) (by omega)) (gDec iX11_followed_ok 4 rfl) rfl rfl (Nat.le_of_ble_eq_true rfl) rfl (gFit_rm (by decide) (by decide)) rfl ?_
    refine go_ialdN (q := 10) (gDec iX11_followed_ok 5 rfl) rfl (by decide) (by omega) (by decide) rfl ?_
    refine go_top (v' := nI (f / 2)) (h1) ?_
    refine go_istore_n (q := 11) (gDec iX11_followed_ok 6 rfl) rfl (by decide) rfl ?_
    refine go_iload_n (q := 12) (gDec iX11_followed_ok 7 rfl) rfl rfl rfl ?_
    refine go_if_ge (t := 19) (q := 15) (gDec iX11_followed_ok 8 rfl) (by decide) rfl (fun c12 => ?_) (fun c12 => False.elim (c12 (nI_pos' (by omega))))
    refine go_iconst (v := nI 2) (q := 20) (gDec iX11_followed_ok 11 rfl) (by decide) rfl ?_
    refine go_iload_n (q := 21) (gDec iX11_followed_ok 12 rfl) rfl rfl rfl ?_
    refine go_imulN (c := 2 * (f / 2)) (q := 22) (gDec iX11_followed_ok 13 rfl) rfl rfl ?_
    refine go_aload_n (q := 23) (gDec iX11_followed_ok 14 rfl) rfl rfl rfl ?_
    refine go_getr (r' := 377) (q := 26) fX11_9 (gDec iX11_followed_ok 15 rfl) rfl (by decide) rfl ?_
    refine go_iload_n (q := 27) (gDec iX11_followed_ok 16 rfl) rfl rfl rfl ?_
    refine go_iconst (v := nI 2) (q := 28) (gDec iX11_followed_ok 17 rfl) (by decide) rfl ?_
    refine go_callS (n2 := 0) (q := 31) kX11_135 (ctX11_sideAt (b := b) (w := 2) (by omega)) (gDec iX11_followed_ok 18 rfl) rfl rfl (Nat.le_of_ble_eq_true rfl) rfl (gFit_rm (by decide) (by decide)) rfl ?_
    refine go_ialdN (q := 32) (gDec iX11_followed_ok 19 rfl) rfl (by decide) (by omega) (by decide) rfl ?_
    refine go_top (v' := nI (f % 2)) (hM.ls2 hb hf) ?_
    refine go_iaddN (c := 2 * (f / 2) + (f % 2)) (q := 33) (gDec iX11_followed_ok 20 rfl) rfl rfl ?_
    exact go_ireturn (gDec iX11_followed_ok 21 rfl) rfl rfl (by rw [show 2 * (f / 2) + f % 2 = f by omega]; rfl) rfl (by decide)

set_option maxHeartbeats 4000000 in
set_option maxRecDepth 100000 in
theorem lpX11_rulesOf {κ : gK} {σ σ' τ : gST} {b : Nat} {o : gO} (hC : gCI τ) (hM : gMR τ (σ.1 377)) (hσ : σ' = σ) : ∀ (f F a : Nat) (r : Nat), a < 2 * gNg τ → gEn (gLe τ) f a → f ≤ F → o = .inl (some (.int (nI (gCnt (gLe τ) F a r)))) → Go κ mX11_rulesOf (gRm 3 0) (gZm κ o σ' 0) 4 [(0, .ref (κ.2.1 + 376)), (1, .int (nI b)), (2, .int (nI r)), (3, .int (nI a))] [] σ 0 := by
  have hW := hC.dw
  have h24 := hW.ng24
  have hN : ∀ (F a : Nat) (r : Nat), a < 2 * gNg τ → gLe τ a = none → o = .inl (some (.int (nI (gCnt (gLe τ) F a r)))) → Go κ mX11_rulesOf (gRm 3 0) (gZm κ o σ' 0) 4 [(0, .ref (κ.2.1 + 376)), (1, .int (nI b)), (2, .int (nI r)), (3, .int (nI a))] [] σ 0 := by
    intro F a r ha hn ho
    have hv : gCnt (gLe τ) F a r = r := by cases F with
      | zero => rfl
      | succ F1 => unfold gCnt; rw [hn]
    rw [hv] at ho
    refine go_aload_n (q := 5) (gDec iX11_rulesOf_ok 4 rfl) rfl rfl rfl ?_
    refine go_iload_n (q := 6) (gDec iX11_rulesOf_ok 5 rfl) rfl rfl rfl ?_
    refine go_callV (n2 := 0) (q := 9) kX11_138 (ctX11_followed hC hM (by omega)) (gDec iX11_rulesOf_ok 6 rfl) rfl rfl (by decide) rfl rfl rfl (Nat.le_of_ble_eq_true rfl) rfl (gFit_rm (by decide) (by decide)) rfl ?_
    refine go_top (v' := -1) (by rw [hn]; rfl) ?_
    refine go_if_lt (t := 24) (q := 12) (gDec iX11_rulesOf_ok 7 rfl) (by decide) rfl (fun c9 => ?_) (fun c9 => False.elim (c9 (by decide)))
    refine go_iload_n (q := 25) (gDec iX11_rulesOf_ok 14 rfl) rfl rfl rfl ?_
    exact go_ireturn (gDec iX11_rulesOf_ok 15 rfl) rfl rfl ho hσ (by decide)
  intro f
  induction f with
  | zero =>
    intro F a r ha hf hF ho
    exact hN F a r ha hf ho
  | succ f ih =>
    intro F a r ha hf hF ho
    cases hl : gLe τ a with
    | none => exact hN F a r ha hl ho
    | some x =>
      have hx := hC.lw.1 a x ha hl
      obtain ⟨F1, rfl⟩ : ∃ F1, F = F1 + 1 := ⟨F - 1, by omega⟩
      refine go_aload_n (q := 5) (gDec iX11_rulesOf_ok 4 rfl) rfl rfl rfl ?_
      refine go_iload_n (q := 6) (gDec iX11_rulesOf_ok 5 rfl) rfl rfl rfl ?_
      refine go_callV (n2 := 0) (q := 9) kX11_138 (ctX11_followed hC hM (by omega)) (gDec iX11_rulesOf_ok 6 rfl) rfl rfl (by decide) rfl rfl rfl (Nat.le_of_ble_eq_true rfl) rfl (gFit_rm (by decide) (by decide)) rfl ?_
      refine go_top (v' := nI x) (by rw [hl]; rfl) ?_
      refine go_if_lt (t := 24) (q := 12) (gDec iX11_rulesOf_ok 7 rfl) (by decide) rfl (fun c9 => False.elim (nI_pos (by omega) c9)) (fun c9 => ?_)
      refine go_iinc (v := nI (r + 1)) (q := 15) (gDec iX11_rulesOf_ok 8 rfl) rfl (nI_1 _) (by decide) rfl ?_
      refine go_aload_n (q := 16) (gDec iX11_rulesOf_ok 9 rfl) rfl rfl rfl ?_
      refine go_iload_n (q := 17) (gDec iX11_rulesOf_ok 10 rfl) rfl rfl rfl ?_
      refine go_callV (n2 := 0) (q := 20) kX11_138 (ctX11_followed hC hM (by omega)) (gDec iX11_rulesOf_ok 11 rfl) rfl rfl (by decide) rfl rfl rfl (Nat.le_of_ble_eq_true rfl) rfl (gFit_rm (by decide) (by decide)) rfl ?_
      refine go_top (v' := nI x) (by rw [hl]; rfl) ?_
      refine go_istore_n (q := 21) (gDec iX11_rulesOf_ok 12 rfl) rfl (by decide) rfl ?_
      refine go_goto (t := 4) (gDec iX11_rulesOf_ok 13 rfl) (by decide) ?_
      refine go_sub (L' := [(0, .ref (κ.2.1 + 376)), (1, .int (nI b)), (2, .int (nI (r + 1))), (3, .int (nI x))]) ⟨rfl, rfl, rfl, rfl, trivial⟩ ?_
      exact ih F1 x (r + 1) hx (hf x hl) (by omega) (ho.trans (by rw [gCnt, hl]))

set_option maxHeartbeats 4000000 in
set_option maxRecDepth 100000 in
theorem ctX11_rulesOf {κ : gK} {σ : gST} {τ : gST} {b : Nat} (hC : gCI τ) (hM : gMR τ (σ.1 377)) (hb : b < 2 * gNg τ) : gCt κ mX11_rulesOf 3 [.ref (κ.2.1 + 376), .int (nI b)] σ (.inl (some (.int (nI (gCnt (gLe τ) 48 b 0))))) σ 0 := by
  refine ct_of (by decide +kernel) rfl (Nat.le_of_ble_eq_true rfl) rfl ?_
  refine go_iconst (v := nI 0) (q := 1) (gDec iX11_rulesOf_ok 0 rfl) (by decide) rfl ?_
  refine go_istore_n (q := 2) (gDec iX11_rulesOf_ok 1 rfl) rfl (by decide) rfl ?_
  refine go_iload_n (q := 3) (gDec iX11_rulesOf_ok 2 rfl) rfl rfl rfl ?_
  refine go_istore_n (q := 4) (gDec iX11_rulesOf_ok 3 rfl) rfl (by decide) rfl ?_
  refine go_sub (L' := [(0, .ref (κ.2.1 + 376)), (1, .int (nI b)), (2, .int (nI 0)), (3, .int (nI b))]) ⟨rfl, rfl, rfl, rfl, trivial⟩ ?_
  exact lpX11_rulesOf hC hM rfl 47 48 b 0 hb (hC.lw.2.1 b hb) (by omega) rfl

set_option maxHeartbeats 4000000 in
set_option maxRecDepth 100000 in
theorem lpX11_bearing {κ : gK} {σ σ' τ : gST} {b : Nat} {o : gO} (hC : gCI τ) (hM : gMR τ (σ.1 377)) (hσ : σ' = σ) : ∀ (f F a : Nat) (r : Int32), a < 2 * gNg τ → gEn (gLe τ) f a → f ≤ F → o = .inl (some (.int (gVal (gLe τ) (τ.1 19) (τ.1 15) F a r))) → Go κ mX11_bearing (gRm 3 0) (gZm κ o σ' 0) 4 [(0, .ref (κ.2.1 + 376)), (1, .int (nI b)), (2, .int r), (3, .int (nI a))] [] σ 0 := by
  have hW := hC.dw
  have h24 := hW.ng24
  have hN : ∀ (F a : Nat) (r : Int32), a < 2 * gNg τ → gLe τ a = none → o = .inl (some (.int (gVal (gLe τ) (τ.1 19) (τ.1 15) F a r))) → Go κ mX11_bearing (gRm 3 0) (gZm κ o σ' 0) 4 [(0, .ref (κ.2.1 + 376)), (1, .int (nI b)), (2, .int r), (3, .int (nI a))] [] σ 0 := by
    intro F a r ha hn ho
    have hv : gVal (gLe τ) (τ.1 19) (τ.1 15) F a r = r + τ.1 15 a := by cases F with
      | zero => rfl
      | succ F1 => unfold gVal; rw [hn]
    rw [hv] at ho
    refine go_aload_n (q := 5) (gDec iX11_bearing_ok 4 rfl) rfl rfl rfl ?_
    refine go_iload_n (q := 6) (gDec iX11_bearing_ok 5 rfl) rfl rfl rfl ?_
    refine go_callV (n2 := 0) (q := 9) kX11_138 (ctX11_followed hC hM (by omega)) (gDec iX11_bearing_ok 6 rfl) rfl rfl (by decide) rfl rfl rfl (Nat.le_of_ble_eq_true rfl) rfl (gFit_rm (by decide) (by decide)) rfl ?_
    refine go_top (v' := -1) (by rw [hn]; rfl) ?_
    refine go_if_lt (t := 34) (q := 12) (gDec iX11_bearing_ok 7 rfl) (by decide) rfl (fun c9 => ?_) (fun c9 => False.elim (c9 (by decide)))
    refine go_iload_n (q := 35) (gDec iX11_bearing_ok 22 rfl) rfl rfl rfl ?_
    refine go_aload_n (q := 36) (gDec iX11_bearing_ok 23 rfl) rfl rfl rfl ?_
    refine go_getr (r' := 377) (q := 39) fX11_9 (gDec iX11_bearing_ok 24 rfl) rfl (by decide) rfl ?_
    refine go_iload_n (q := 40) (gDec iX11_bearing_ok 25 rfl) rfl rfl rfl ?_
    refine go_iconst (v := nI 0) (q := 41) (gDec iX11_bearing_ok 26 rfl) (by decide) rfl ?_
    refine go_callS (n2 := 0) (q := 44) kX11_135 (ctX11_sideAt (b := a) (w := 0) (by omega)) (gDec iX11_bearing_ok 27 rfl) rfl rfl (Nat.le_of_ble_eq_true rfl) rfl (gFit_rm (by decide) (by decide)) rfl ?_
    refine go_ialdN (q := 45) (gDec iX11_bearing_ok 28 rfl) rfl (by decide) (by omega) (by decide) rfl ?_
    refine go_top (v' := τ.1 15 a) (hM.td2 ha) ?_
    refine go_iadd (q := 46) (gDec iX11_bearing_ok 29 rfl) rfl ?_
    exact go_ireturn (gDec iX11_bearing_ok 30 rfl) rfl rfl ho hσ (by decide)
  intro f
  induction f with
  | zero =>
    intro F a r ha hf hF ho
    exact hN F a r ha hf ho
  | succ f ih =>
    intro F a r ha hf hF ho
    cases hl : gLe τ a with
    | none => exact hN F a r ha hl ho
    | some x =>
      have hx := hC.lw.1 a x ha hl
      obtain ⟨F1, rfl⟩ : ∃ F1, F = F1 + 1 := ⟨F - 1, by omega⟩
      refine go_aload_n (q := 5) (gDec iX11_bearing_ok 4 rfl) rfl rfl rfl ?_
      refine go_iload_n (q := 6) (gDec iX11_bearing_ok 5 rfl) rfl rfl rfl ?_
      refine go_callV (n2 := 0) (q := 9) kX11_138 (ctX11_followed hC hM (by omega)) (gDec iX11_bearing_ok 6 rfl) rfl rfl (by decide) rfl rfl rfl (Nat.le_of_ble_eq_true rfl) rfl (gFit_rm (by decide) (by decide)) rfl ?_
      refine go_top (v' := nI x) (by rw [hl]; rfl) ?_
      refine go_if_lt (t := 34) (q := 12) (gDec iX11_bearing_ok 7 rfl) (by decide) rfl (fun c9 => False.elim (nI_pos (by omega) c9)) (fun c9 => ?_)
      refine go_iload_n (q := 13) (gDec iX11_bearing_ok 8 rfl) rfl rfl rfl ?_
      refine go_aload_n (q := 14) (gDec iX11_bearing_ok 9 rfl) rfl rfl rfl ?_
      refine go_getr (r' := 377) (q := 17) fX11_9 (gDec iX11_bearing_ok 10 rfl) rfl (by decide) rfl ?_
      refine go_iload_n (q := 18) (gDec iX11_bearing_ok 11 rfl) rfl rfl rfl ?_
      refine go_iconst (v := nI 3) (q := 19) (gDec iX11_bearing_ok 12 rfl) (by decide) rfl ?_
      refine go_callS (n2 := 0) (q := 22) kX11_135 (ctX11_sideAt (b := a) (w := 3) (by omega)) (gDec iX11_bearing_ok 13 rfl) rfl rfl (Nat.le_of_ble_eq_true rfl) rfl (gFit_rm (by decide) (by decide)) rfl ?_
      refine go_ialdN (q := 23) (gDec iX11_bearing_ok 14 rfl) rfl (by decide) (by omega) (by decide) rfl ?_
      refine go_top (v' := τ.1 19 a) (hM.df2 ha hl) ?_
      refine go_iadd (q := 24) (gDec iX11_bearing_ok 15 rfl) rfl ?_
      refine go_istore_n (q := 25) (gDec iX11_bearing_ok 16 rfl) rfl (by decide) rfl ?_
      refine go_aload_n (q := 26) (gDec iX11_bearing_ok 17 rfl) rfl rfl rfl ?_
      refine go_iload_n (q := 27) (gDec iX11_bearing_ok 18 rfl) rfl rfl rfl ?_
      refine go_callV (n2 := 0) (q := 30) kX11_138 (ctX11_followed hC hM (by omega)) (gDec iX11_bearing_ok 19 rfl) rfl rfl (by decide) rfl rfl rfl (Nat.le_of_ble_eq_true rfl) rfl (gFit_rm (by decide) (by decide)) rfl ?_
      refine go_top (v' := nI x) (by rw [hl]; rfl) ?_
      refine go_istore_n (q := 31) (gDec iX11_bearing_ok 20 rfl) rfl (by decide) rfl ?_
      refine go_goto (t := 4) (gDec iX11_bearing_ok 21 rfl) (by decide) ?_
      refine go_sub (L' := [(0, .ref (κ.2.1 + 376)), (1, .int (nI b)), (2, .int (r + τ.1 19 a)), (3, .int (nI x))]) ⟨rfl, rfl, rfl, rfl, trivial⟩ ?_
      exact ih F1 x (r + τ.1 19 a) hx (hf x hl) (by omega) (ho.trans (by rw [gVal, hl]))

set_option maxHeartbeats 4000000 in
set_option maxRecDepth 100000 in
theorem ctX11_bearing {κ : gK} {σ : gST} {τ : gST} {b : Nat} (hC : gCI τ) (hM : gMR τ (σ.1 377)) (hb : b < 2 * gNg τ) : gCt κ mX11_bearing 3 [.ref (κ.2.1 + 376), .int (nI b)] σ (.inl (some (.int (gSd τ b)))) σ 0 := by
  refine ct_of (by decide +kernel) rfl (Nat.le_of_ble_eq_true rfl) rfl ?_
  refine go_iconst (v := 0) (q := 1) (gDec iX11_bearing_ok 0 rfl) (by decide) rfl ?_
  refine go_istore_n (q := 2) (gDec iX11_bearing_ok 1 rfl) rfl (by decide) rfl ?_
  refine go_iload_n (q := 3) (gDec iX11_bearing_ok 2 rfl) rfl rfl rfl ?_
  refine go_istore_n (q := 4) (gDec iX11_bearing_ok 3 rfl) rfl (by decide) rfl ?_
  refine go_sub (L' := [(0, .ref (κ.2.1 + 376)), (1, .int (nI b)), (2, .int 0), (3, .int (nI b))]) ⟨rfl, rfl, rfl, rfl, trivial⟩ ?_
  exact lpX11_bearing hC hM rfl 47 48 b 0 hb (hC.lw.2.1 b hb) (by omega) rfl

theorem lI_eq {a t : Nat} (ha : a < 2 ^ 31) (ht : t < 2 ^ 31) : lI (some a) = nI t ↔ a = t := nI_eq ha ht
set_option maxHeartbeats 4000000 in
set_option maxRecDepth 100000 in
theorem lpX11_leadsTo {κ : gK} {σ σ' τ : gST} {b t : Nat} {o : gO} (hC : gCI τ) (hM : gMR τ (σ.1 377)) (ht : t < 48) (hσ : σ' = σ) : ∀ (f F a : Nat), a < 2 * gNg τ → gEn (gLe τ) f a → f + 2 ≤ F → o = .inl (some (.int (bI (gLd (gLe τ) t F (some a))))) → Go κ mX11_leadsTo (gRm 3 0) (gZm κ o σ' 0) 2 [(0, .ref (κ.2.1 + 376)), (1, .int (nI b)), (2, .int (nI t)), (3, .int (lI (some a)))] [] σ 0 := by
  have hW := hC.dw
  have h24 := hW.ng24
  have hY : ∀ (F a : Nat), a < 2 * gNg τ → a = t → 1 ≤ F → o = .inl (some (.int (bI (gLd (gLe τ) t F (some a))))) → Go κ mX11_leadsTo (gRm 3 0) (gZm κ o σ' 0) 2 [(0, .ref (κ.2.1 + 376)), (1, .int (nI b)), (2, .int (nI t)), (3, .int (lI (some a)))] [] σ 0 := by
    intro F a ha he hF ho
    obtain ⟨F1, rfl⟩ : ∃ F1, F = F1 + 1 := ⟨F - 1, by omega⟩
    have hv : gLd (gLe τ) t (F1 + 1) (some a) = true := by unfold gLd; rw [he, Nat.beq_refl]; rfl
    rw [hv] at ho
    refine go_iload_n (q := 3) (gDec iX11_leadsTo_ok 2 rfl) rfl rfl rfl ?_
    refine go_if_lt (t := 20) (q := 6) (gDec iX11_leadsTo_ok 3 rfl) (by decide) rfl (fun c3 => False.elim (lI_nn (by omega) c3)) (fun c3 => ?_)
    refine go_iload_n (q := 7) (gDec iX11_leadsTo_ok 4 rfl) rfl rfl rfl ?_
    refine go_iload_n (q := 8) (gDec iX11_leadsTo_ok 5 rfl) rfl rfl rfl ?_
    refine go_icmp_eq (t := 20) (q := 11) (gDec iX11_leadsTo_ok 6 rfl) (by decide) rfl (fun c8 => ?_) (fun c8 => False.elim (c8 ((lI_eq (by omega) (by omega)).mpr he)))
    refine go_iload_n (q := 21) (gDec iX11_leadsTo_ok 12 rfl) rfl rfl rfl ?_
    refine go_iload_n (q := 22) (gDec iX11_leadsTo_ok 13 rfl) rfl rfl rfl ?_
    refine go_icmp_ne (t := 29) (q := 25) (gDec iX11_leadsTo_ok 14 rfl) (by decide) rfl (fun c22 => False.elim (c22 ((lI_eq (by omega) (by omega)).mpr he))) (fun c22 => ?_)
    refine go_iconst (v := nI 1) (q := 26) (gDec iX11_leadsTo_ok 15 rfl) (by decide) rfl ?_
    refine go_goto (t := 30) (gDec iX11_leadsTo_ok 16 rfl) (by decide) ?_
    exact go_ireturn (gDec iX11_leadsTo_ok 18 rfl) rfl rfl ho hσ (by decide)
  have hN : ∀ (F a : Nat), a < 2 * gNg τ → ¬ a = t → gLe τ a = none → 2 ≤ F → o = .inl (some (.int (bI (gLd (gLe τ) t F (some a))))) → Go κ mX11_leadsTo (gRm 3 0) (gZm κ o σ' 0) 2 [(0, .ref (κ.2.1 + 376)), (1, .int (nI b)), (2, .int (nI t)), (3, .int (lI (some a)))] [] σ 0 := by
    intro F a ha he hn hF ho
    obtain ⟨F1, rfl⟩ : ∃ F1, F = F1 + 2 := ⟨F - 2, by omega⟩
    have hv : gLd (gLe τ) t (F1 + 2) (some a) = false := by
      unfold gLd
      rw [show Nat.beq a t = false from gBeq he, hn]
      rfl
    rw [hv] at ho
    have hq : ¬ (-1 : Int32) = nI t := fun h9 => nI_pos (n := t) (by omega) (by rw [← h9]; decide)
    refine go_iload_n (q := 3) (gDec iX11_leadsTo_ok 2 rfl) rfl rfl rfl ?_
    refine go_if_lt (t := 20) (q := 6) (gDec iX11_leadsTo_ok 3 rfl) (by decide) rfl (fun c3 => False.elim (lI_nn (by omega) c3)) (fun c3 => ?_)
    refine go_iload_n (q := 7) (gDec iX11_leadsTo_ok 4 rfl) rfl rfl rfl ?_
    refine go_iload_n (q := 8) (gDec iX11_leadsTo_ok 5 rfl) rfl rfl rfl ?_
    refine go_icmp_eq (t := 20) (q := 11) (gDec iX11_leadsTo_ok 6 rfl) (by decide) rfl (fun c8 => False.elim (he ((lI_eq (by omega) (by omega)).mp c8))) (fun c8 => ?_)
    refine go_aload_n (q := 12) (gDec iX11_leadsTo_ok 7 rfl) rfl rfl rfl ?_
    refine go_iload_n (q := 13) (gDec iX11_leadsTo_ok 8 rfl) rfl rfl rfl ?_
    refine go_callV (n2 := 0) (q := 16) kX11_138 (ctX11_followed (b := a) hC hM ha) (gDec iX11_leadsTo_ok 9 rfl) rfl rfl (by decide) rfl rfl rfl (Nat.le_of_ble_eq_true rfl) rfl (gFit_rm (by decide) (by decide)) rfl ?_
    refine go_top (v' := -1) (by rw [hn]; rfl) ?_
    refine go_istore_n (q := 17) (gDec iX11_leadsTo_ok 10 rfl) rfl (by decide) rfl ?_
    refine go_goto (t := 2) (gDec iX11_leadsTo_ok 11 rfl) (by decide) ?_
    refine go_iload_n (q := 3) (gDec iX11_leadsTo_ok 2 rfl) rfl rfl rfl ?_
    refine go_if_lt (t := 20) (q := 6) (gDec iX11_leadsTo_ok 3 rfl) (by decide) rfl (fun c3 => ?_) (fun c3 => False.elim (c3 (by decide)))
    refine go_iload_n (q := 21) (gDec iX11_leadsTo_ok 12 rfl) rfl rfl rfl ?_
    refine go_iload_n (q := 22) (gDec iX11_leadsTo_ok 13 rfl) rfl rfl rfl ?_
    refine go_icmp_ne (t := 29) (q := 25) (gDec iX11_leadsTo_ok 14 rfl) (by decide) rfl (fun c22 => ?_) (fun c22 => False.elim (absurd c22 hq))
    refine go_iconst (v := nI 0) (q := 30) (gDec iX11_leadsTo_ok 17 rfl) (by decide) rfl ?_
    exact go_ireturn (gDec iX11_leadsTo_ok 18 rfl) rfl rfl ho hσ (by decide)
  intro f
  induction f with
  | zero =>
    intro F a ha hf hF ho
    by_cases he : a = t
    · exact hY F a ha he (by omega) ho
    · exact hN F a ha he hf (by omega) ho
  | succ f ih =>
    intro F a ha hf hF ho
    by_cases he : a = t
    · exact hY F a ha he (by omega) ho
    · cases hl : gLe τ a with
      | none => exact hN F a ha he hl (by omega) ho
      | some x =>
        have hx := hC.lw.1 a x ha hl
        obtain ⟨F1, rfl⟩ : ∃ F1, F = F1 + 1 := ⟨F - 1, by omega⟩
        refine go_iload_n (q := 3) (gDec iX11_leadsTo_ok 2 rfl) rfl rfl rfl ?_
        refine go_if_lt (t := 20) (q := 6) (gDec iX11_leadsTo_ok 3 rfl) (by decide) rfl (fun c3 => False.elim (lI_nn (by omega) c3)) (fun c3 => ?_)
        refine go_iload_n (q := 7) (gDec iX11_leadsTo_ok 4 rfl) rfl rfl rfl ?_
        refine go_iload_n (q := 8) (gDec iX11_leadsTo_ok 5 rfl) rfl rfl rfl ?_
        refine go_icmp_eq (t := 20) (q := 11) (gDec iX11_leadsTo_ok 6 rfl) (by decide) rfl (fun c8 => False.elim (he ((lI_eq (by omega) (by omega)).mp c8))) (fun c8 => ?_)
        refine go_aload_n (q := 12) (gDec iX11_leadsTo_ok 7 rfl) rfl rfl rfl ?_
        refine go_iload_n (q := 13) (gDec iX11_leadsTo_ok 8 rfl) rfl rfl rfl ?_
        refine go_callV (n2 := 0) (q := 16) kX11_138 (ctX11_followed (b := a) hC hM ha) (gDec iX11_leadsTo_ok 9 rfl) rfl rfl (by decide) rfl rfl rfl (Nat.le_of_ble_eq_true rfl) rfl (gFit_rm (by decide) (by decide)) rfl ?_
        refine go_top (v' := lI (some x)) (by rw [hl]) ?_
        refine go_istore_n (q := 17) (gDec iX11_leadsTo_ok 10 rfl) rfl (by decide) rfl ?_
        refine go_goto (t := 2) (gDec iX11_leadsTo_ok 11 rfl) (by decide) ?_
        refine go_sub (L' := [(0, .ref (κ.2.1 + 376)), (1, .int (nI b)), (2, .int (nI t)), (3, .int (lI (some x)))]) ⟨rfl, rfl, rfl, rfl, trivial⟩ ?_
        exact ih F1 x hx (hf x hl) (by omega) (ho.trans (by rw [gLd, show Nat.beq a t = false from gBeq he, hl]; rfl))

set_option maxHeartbeats 4000000 in
set_option maxRecDepth 100000 in
theorem ctX11_leadsTo {κ : gK} {σ : gST} {τ : gST} {b : Nat} (hC : gCI τ) (hM : gMR τ (σ.1 377)) (hb : b < 2 * gNg τ) {t : Nat} (ht : t < 48) : gCt κ mX11_leadsTo 3 [.ref (κ.2.1 + 376), .int (nI b), .int (nI t)] σ (.inl (some (.int (bI (gLd (gLe τ) t 49 (some b)))))) σ 0 := by
  refine ct_of (by decide +kernel) rfl (Nat.le_of_ble_eq_true rfl) rfl ?_
  refine go_iload_n (q := 1) (gDec iX11_leadsTo_ok 0 rfl) rfl rfl rfl ?_
  refine go_istore_n (q := 2) (gDec iX11_leadsTo_ok 1 rfl) rfl (by decide) rfl ?_
  refine go_sub (L' := [(0, .ref (κ.2.1 + 376)), (1, .int (nI b)), (2, .int (nI t)), (3, .int (lI (some b)))]) ⟨rfl, rfl, rfl, rfl, trivial⟩ ?_
  exact lpX11_leadsTo hC hM ht rfl 47 49 b hb (hC.lw.2.1 b hb) (by omega) rfl

set_option maxHeartbeats 4000000 in
set_option maxRecDepth 100000 in
theorem ctX11_advance {κ : gK} {σ : gST} {τ : gST} {g : Nat} (hC : gCI τ) (hM : gMR τ (σ.1 377)) (hg : g < gNg τ) : gCt κ mX11_advance 4 [.ref (κ.2.1 + 376), .int (nI g)] σ (.inl (some (.int (gAdv τ g)))) σ 0 := by
  have hW := hC.dw
  have h24 := hW.ng24
  have hEd : 0 < gNc τ g → 0 < gNp τ g 0 := fun h => Nat.lt_of_lt_of_le (by decide) (hC.po.1 g 0 hg h)
  refine ct_of (by decide +kernel) rfl (Nat.le_of_ble_eq_true rfl) rfl ?_
  refine go_aload_n (q := 1) (gDec iX11_advance_ok 0 rfl) rfl rfl rfl ?_
  refine go_iconst (v := nI 2) (q := 2) (gDec iX11_advance_ok 1 rfl) (by decide) rfl ?_
  refine go_iload_n (q := 3) (gDec iX11_advance_ok 2 rfl) rfl rfl rfl ?_
  refine go_imulN (c := 2 * g) (q := 4) (gDec iX11_advance_ok 3 rfl) rfl rfl ?_
  refine go_callV (n2 := 0) (q := 7) kX11_141 (ctX11_bearing (b := 2 * g) hC hM (by omega)) (gDec iX11_advance_ok 4 rfl) rfl rfl (by decide) rfl rfl rfl (Nat.le_of_ble_eq_true rfl) rfl (gFit_rm (by decide) (by decide)) rfl ?_
  refine go_aload_n (q := 8) (gDec iX11_advance_ok 5 rfl) rfl rfl rfl ?_
  refine go_iconst (v := nI 2) (q := 9) (gDec iX11_advance_ok 6 rfl) (by decide) rfl ?_
  refine go_iload_n (q := 10) (gDec iX11_advance_ok 7 rfl) rfl rfl rfl ?_
  refine go_imulN (c := 2 * g) (q := 11) (gDec iX11_advance_ok 8 rfl) rfl rfl ?_
  refine go_iconst (v := nI 1) (q := 12) (gDec iX11_advance_ok 9 rfl) (by decide) rfl ?_
  refine go_iaddN (c := 2 * g + 1) (q := 13) (gDec iX11_advance_ok 10 rfl) rfl rfl ?_
  refine go_callV (n2 := 0) (q := 16) kX11_141 (ctX11_bearing (b := 2 * g + 1) hC hM (by omega)) (gDec iX11_advance_ok 11 rfl) rfl rfl (by decide) rfl rfl rfl (Nat.le_of_ble_eq_true rfl) rfl (gFit_rm (by decide) (by decide)) rfl ?_
  refine go_iadd (q := 17) (gDec iX11_advance_ok 12 rfl) rfl ?_
  refine go_aload_n (q := 18) (gDec iX11_advance_ok 13 rfl) rfl rfl rfl ?_
  refine go_iload_n (q := 19) (gDec iX11_advance_ok 14 rfl) rfl rfl rfl ?_
  refine go_iconst (v := 0) (q := 20) (gDec iX11_advance_ok 15 rfl) (by decide) rfl ?_
  refine go_callV (n2 := 0) (q := 23) kX11_119 (ctX11_edgeg hW hM hg) (gDec iX11_advance_ok 16 rfl) rfl rfl (by decide) rfl rfl rfl (Nat.le_of_ble_eq_true rfl) rfl (gFit_rm (by decide) (by decide)) rfl ?_
  refine go_iadd (q := 24) (gDec iX11_advance_ok 17 rfl) rfl ?_
  refine go_aload_n (q := 25) (gDec iX11_advance_ok 18 rfl) rfl rfl rfl ?_
  refine go_iload_n (q := 26) (gDec iX11_advance_ok 19 rfl) rfl rfl rfl ?_
  refine go_iconst (v := 1) (q := 27) (gDec iX11_advance_ok 20 rfl) (by decide) rfl ?_
  refine go_callV (n2 := 0) (q := 30) kX11_119 (ctX11_edgel hW hM hg) (gDec iX11_advance_ok 21 rfl) rfl rfl (by decide) rfl rfl rfl (Nat.le_of_ble_eq_true rfl) rfl (gFit_rm (by decide) (by decide)) rfl ?_
  refine go_isub (q := 31) (gDec iX11_advance_ok 22 rfl) rfl ?_
  exact go_ireturn (gDec iX11_advance_ok 23 rfl) rfl rfl (by rw [gEd_eq hEd, gEd_eq hEd]; unfold gAdv; rw [show g * 2 + 0 = 2 * g by omega, show g * 2 + 1 = 2 * g + 1 by omega]) rfl (by decide)
