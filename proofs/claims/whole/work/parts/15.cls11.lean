/-- the same current design -/
def gEqD (σ τ : gST) : Prop := ∀ k, k < 36 → τ.1 k = σ.1 k
theorem gEqD.rf (σ : gST) : gEqD σ σ := fun _ _ => rfl
theorem gEqD.tr {σ τ υ : gST} (h : gEqD σ τ) (h2 : gEqD τ υ) : gEqD σ υ := fun k hk => (h2 k hk).trans (h k hk)
theorem gEqD.put {σ τ : gST} (h : gEqD σ τ) {a : Nat} (ha : 36 ≤ a) (i : Nat) (v : Int32) : gEqD σ (gPut τ a i v) := fun k hk => (gPut_ne _ _ _ (by omega)).trans (h k hk)
theorem gEqD.dw {σ τ : gST} (h : gEqD σ τ) (hW : gDW σ) : gDW τ := by
  unfold gDW at hW ⊢
  rw [h 2 (by decide), h 6 (by decide), h 8 (by decide), h 17 (by decide), h 22 (by decide), h 24 (by decide), h 31 (by decide)]
  exact hW
theorem gEqD.ng {σ τ : gST} (h : gEqD σ τ) : gNg τ = gNg σ := by unfold gNg; rw [h 2 (by decide)]
theorem gEqD.nc {σ τ : gST} (h : gEqD σ τ) : gNc τ = gNc σ := by funext g; unfold gNc; rw [h 6 (by decide)]
theorem gEqD.np {σ τ : gST} (h : gEqD σ τ) : gNp τ = gNp σ := by funext g c; unfold gNp; rw [h 8 (by decide)]
theorem gEqD.le {σ τ : gST} (h : gEqD σ τ) : gLe τ = gLe σ := by funext g; unfold gLe; rw [h 17 (by decide)]
theorem gEqD.kx {σ τ : gST} (h : gEqD σ τ) : gKx τ = gKx σ := by funext g; unfold gKx; rw [h 22 (by decide)]
theorem gEqD.ky {σ τ : gST} (h : gEqD σ τ) : gKy τ = gKy σ := by funext g; unfold gKy; rw [h 24 (by decide)]
theorem gEqD.sd {σ τ : gST} (h : gEqD σ τ) : gSd τ = gSd σ := by funext g; unfold gSd; rw [h.le, h 19 (by decide), h 15 (by decide)]
theorem gEqD.kn {σ τ : gST} (h : gEqD σ τ) : gKn τ = gKn σ := by funext g k; unfold gKn; rw [h.kx, h.ky, h 28 (by decide), h 26 (by decide)]
theorem gEqD.adv {σ τ : gST} (h : gEqD σ τ) : gAdv τ = gAdv σ := by funext g; unfold gAdv; rw [h.sd, h.np, h.nc, h 10 (by decide)]
/-- the text and the proof are well made -/
def gTW (σ : gST) : Prop := (0 ≤ (σ.1 353 1).toInt ∧ (σ.1 353 1).toInt ≤ 60)
def gPW (σ : gST) : Prop := (0 ≤ (σ.1 363 6).toInt ∧ (σ.1 363 6).toInt ≤ 60) ∧ gBd (σ.1 365) 60 (-1) 23
def gTl (σ : gST) : Nat := nA (σ.1 353 1)
def gPl_ (σ : gST) : Nat := nA (σ.1 363 6)
theorem gTW.tl {σ : gST} (h : gTW σ) : σ.1 353 1 = nI (gTl σ) := nA_n h.1
theorem gTW.tl60 {σ : gST} (h : gTW σ) : gTl σ ≤ 60 := nA_le h.2
theorem gPW.pl {σ : gST} (h : gPW σ) : σ.1 363 6 = nI (gPl_ σ) := nA_n h.1.1
theorem gPW.pl60 {σ : gST} (h : gPW σ) : gPl_ σ ≤ 60 := nA_le h.1.2
theorem gPW.gl {σ : gST} (h : gPW σ) {i : Nat} (hi : i < 60) : σ.1 365 i = lI (oA (σ.1 365 i)) := oA_l (h.2 i hi).1
theorem gPW.gl24 {σ : gST} (h : gPW σ) {i b : Nat} (hi : i < 60) (hb : oA (σ.1 365 i) = some b) : b < 24 := by
  have := oA_lt (k := 23) (h.2 i hi).2 hb
  omega
/-- the glyph of the proof's i-th sign, where there is one -/
def gPg (σ : gST) (i : Nat) : Option Nat := if i < gPl_ σ then oA (σ.1 365 i) else none
/-- whether the signs from i on can be set -/
def gIp9 (f t : Nat → Int32) (N : Nat) : Nat → Nat → Int32
  | _, 0 => 1
  | i, m + 1 => if t i = 32 then gIp9 f t N (i + 1) m else if gFind f (t i) 0 N = -1 then 0 else gIp9 f t N (i + 1) m

set_option maxHeartbeats 4000000 in
set_option maxRecDepth 100000 in
theorem lpX6_isProof {κ : gK} {σ σ' : gST} {o : gO} (hW : gDW σ) (hT : gTW σ) (hσ : σ' = σ) : ∀ (m i : Nat), i + m = gTl σ → o = .inl (some (.int (gIp9 (σ.1 4) (σ.1 355) (gNg σ) i m))) → Go κ mX6_isProof (gRm 3 0) (gZm κ o σ' 0) 2 [(0, .ref (κ.2.1 + 353)), (1, .ref (κ.2.1 + 2)), (2, .int (nI i))] [] σ 0 := by
  have h60 := hT.tl60
  intro m
  induction m with
  | zero =>
    intro i hi ho
    refine go_iload_n (q := 3) (gDec iX6_isProof_ok 2 rfl) rfl rfl rfl ?_
    refine go_aload_n (q := 4) (gDec iX6_isProof_ok 3 rfl) rfl rfl rfl ?_
    refine go_callV (n2 := 0) (q := 7) kX6_48 ctX9_length (gDec iX6_isProof_ok 4 rfl) rfl rfl (by decide) rfl rfl rfl (Nat.le_of_ble_eq_true rfl) rfl (gFit_rm (by decide) (by decide)) rfl ?_
    refine go_icmp_ge (t := 41) (q := 10) (gDec iX6_isProof_ok 5 rfl) (by decide) rfl (fun c7 => ?_) (fun c7 => False.elim (c7 (by rw [hT.tl]; exact nI_le (by omega) (by omega))))
    refine go_iconst (v := 1) (q := 42) (gDec iX6_isProof_ok 22 rfl) (by decide) rfl ?_
    exact go_ireturn (gDec iX6_isProof_ok 23 rfl) rfl rfl ho hσ (by decide)
  | succ m ih =>
    intro i hi ho
    rw [gIp9] at ho
    refine go_iload_n (q := 3) (gDec iX6_isProof_ok 2 rfl) rfl rfl rfl ?_
    refine go_aload_n (q := 4) (gDec iX6_isProof_ok 3 rfl) rfl rfl rfl ?_
    refine go_callV (n2 := 0) (q := 7) kX6_48 ctX9_length (gDec iX6_isProof_ok 4 rfl) rfl rfl (by decide) rfl rfl rfl (Nat.le_of_ble_eq_true rfl) rfl (gFit_rm (by decide) (by decide)) rfl ?_
    refine go_icmp_ge (t := 41) (q := 10) (gDec iX6_isProof_ok 5 rfl) (by decide) rfl (fun c7 => False.elim (by rw [hT.tl] at c7; exact nI_ge (a := i) (b := gTl σ) (by omega) (by omega) c7)) (fun c7 => ?_)
    refine go_aload_n (q := 11) (gDec iX6_isProof_ok 6 rfl) rfl rfl rfl ?_
    refine go_iload_n (q := 12) (gDec iX6_isProof_ok 7 rfl) rfl rfl rfl ?_
    refine go_callV (n2 := 0) (q := 15) kX6_53 (ctX9_signAt (by omega)) (gDec iX6_isProof_ok 8 rfl) rfl rfl (by decide) rfl rfl rfl (Nat.le_of_ble_eq_true rfl) rfl (gFit_rm (by decide) (by decide)) rfl ?_
    refine go_bipush (v := 32) (q := 17) (gDec iX6_isProof_ok 9 rfl) (by decide) rfl ?_
    refine go_icmp_eq (t := 35) (q := 20) (gDec iX6_isProof_ok 10 rfl) (by decide) rfl (fun c17 => ?_) (fun c17 => ?_)
    · refine go_iinc (v := nI (i + 1)) (q := 38) (gDec iX6_isProof_ok 20 rfl) rfl (nI_1 i) (by decide) rfl ?_
      refine go_goto (t := 2) (gDec iX6_isProof_ok 21 rfl) (by decide) ?_
      exact go_sub (L' := [(0, .ref (κ.2.1 + 353)), (1, .ref (κ.2.1 + 2)), (2, .int (nI (i + 1)))]) ⟨rfl, rfl, rfl, trivial⟩ (ih (i + 1) (by omega) (ho.trans (by first | rw [if_pos c17] | rw [if_neg c17, if_neg c30])))
    · refine go_aload_n (q := 21) (gDec iX6_isProof_ok 11 rfl) rfl rfl rfl ?_
      refine go_aload_n (q := 22) (gDec iX6_isProof_ok 12 rfl) rfl rfl rfl ?_
      refine go_iload_n (q := 23) (gDec iX6_isProof_ok 13 rfl) rfl rfl rfl ?_
      refine go_callV (n2 := 0) (q := 26) kX6_53 (ctX9_signAt (by omega)) (gDec iX6_isProof_ok 14 rfl) rfl rfl (by decide) rfl rfl rfl (Nat.le_of_ble_eq_true rfl) rfl (gFit_rm (by decide) (by decide)) rfl ?_
      refine go_callV (n2 := 0) (q := 29) kX6_57 (ctX5_glyphWith (N := gNg σ) hW.ng24 hW.ng) (gDec iX6_isProof_ok 15 rfl) rfl rfl (by decide) rfl rfl rfl (Nat.le_of_ble_eq_true rfl) rfl (gFit_rm (by decide) (by decide)) rfl ?_
      refine go_iconst (v := (-1)) (q := 30) (gDec iX6_isProof_ok 16 rfl) (by decide) rfl ?_
      refine go_icmp_ne (t := 35) (q := 33) (gDec iX6_isProof_ok 17 rfl) (by decide) rfl (fun c30 => ?_) (fun c30 => ?_)
      · refine go_iinc (v := nI (i + 1)) (q := 38) (gDec iX6_isProof_ok 20 rfl) rfl (nI_1 i) (by decide) rfl ?_
        refine go_goto (t := 2) (gDec iX6_isProof_ok 21 rfl) (by decide) ?_
        exact go_sub (L' := [(0, .ref (κ.2.1 + 353)), (1, .ref (κ.2.1 + 2)), (2, .int (nI (i + 1)))]) ⟨rfl, rfl, rfl, trivial⟩ (ih (i + 1) (by omega) (ho.trans (by first | rw [if_pos c17] | rw [if_neg c17, if_neg c30])))
      · refine go_iconst (v := 0) (q := 34) (gDec iX6_isProof_ok 18 rfl) (by decide) rfl ?_
        exact go_ireturn (gDec iX6_isProof_ok 19 rfl) rfl rfl (ho.trans (by rw [if_neg c17, if_pos c30])) hσ (by decide)

set_option maxHeartbeats 4000000 in
set_option maxRecDepth 100000 in
theorem ctX6_isProof {κ : gK} {σ : gST} (hW : gDW σ) (hT : gTW σ) : gCt κ mX6_isProof 3 [.ref (κ.2.1 + 353), .ref (κ.2.1 + 2)] σ (.inl (some (.int (gIp9 (σ.1 4) (σ.1 355) (gNg σ) 0 (gTl σ))))) σ 0 := by
  refine ct_of (by decide +kernel) rfl (Nat.le_of_ble_eq_true rfl) rfl ?_
  refine go_iconst (v := 0) (q := 1) (gDec iX6_isProof_ok 0 rfl) (by decide) rfl ?_
  refine go_istore_n (q := 2) (gDec iX6_isProof_ok 1 rfl) rfl (by decide) rfl ?_
  refine go_sub (L' := [(0, .ref (κ.2.1 + 353)), (1, .ref (κ.2.1 + 2)), (2, .int (nI 0))]) ⟨rfl, rfl, rfl, trivial⟩ ?_
  exact lpX6_isProof hW hT rfl (gTl σ) 0 (by omega) rfl

def gTkS (σ : gST) (i : Nat) (a : gST) : gST := gPut a 365 i (gFind (σ.1 4) (σ.1 355 i) 0 (gNg σ))
abbrev gTkI (σ a : gST) : Prop := gEqD σ a ∧ a.1 355 = σ.1 355 ∧ a.1 363 6 = σ.1 353 1
theorem gTkS_I {σ : gST} (i : Nat) (a : gST) (h : gTkI σ a) : gTkI σ (gTkS σ i a) :=
  ⟨h.1.put (by decide) _ _, (gPut_ne _ _ _ (by decide)).trans h.2.1, (congrFun (gPut_ne _ _ _ (by decide)) _).trans h.2.2⟩

set_option maxHeartbeats 4000000 in
set_option maxRecDepth 100000 in
theorem lpX6_take {κ : gK} {Z : gZ}  {σ : gST} (hW : gDW σ) (hT : gTW σ) : ∀ (m i : Nat) (a : gST), i + m = (gTl σ) → gTkI σ a → Go κ mX6_take (gRm 3 0) Z 41 [(0, .ref (κ.2.1 + 363)), (1, .ref (κ.2.1 + 353)), (2, .ref (κ.2.1 + 2)), (3, .int (nI (gTl σ)))] [] (gLoop (gTkS σ) i m a) 0 → Go κ mX6_take (gRm 3 0) Z 10 [(0, .ref (κ.2.1 + 363)), (1, .ref (κ.2.1 + 353)), (2, .ref (κ.2.1 + 2)), (3, .int (nI i))] [] a 0 := by
  intro m
  induction m with
  | zero =>
    intro i a hi hI h
    have h60 := hT.tl60
    have hiN : (gTl σ) = i := by omega
    rw [hiN] at h
    refine go_iload_n (q := 11) (gDec iX6_take_ok 6 rfl) rfl rfl rfl ?_
    refine go_aload_n (q := 12) (gDec iX6_take_ok 7 rfl) rfl rfl rfl ?_
    refine go_geti (q := 15) fX6_35 (gDec iX6_take_ok 8 rfl) rfl (by decide) rfl ?_
    refine go_icmp_ge (t := 41) (q := 18) (gDec iX6_take_ok 9 rfl) (by decide) rfl (fun c15 => ?_) (fun c15 => False.elim (c15 (by rw [(hI.2.2.trans hT.tl)]; exact nI_le (by omega) (by omega))))
    refine go_sub (L' := [(0, .ref (κ.2.1 + 363)), (1, .ref (κ.2.1 + 353)), (2, .ref (κ.2.1 + 2)), (3, .int (nI i))]) ⟨rfl, rfl, rfl, rfl, trivial⟩ ?_
    exact h
  | succ m ih =>
    intro i a hi hI h
    have h60 := hT.tl60
    have hW2 := hI.1.dw hW
    refine go_iload_n (q := 11) (gDec iX6_take_ok 6 rfl) rfl rfl rfl ?_
    refine go_aload_n (q := 12) (gDec iX6_take_ok 7 rfl) rfl rfl rfl ?_
    refine go_geti (q := 15) fX6_35 (gDec iX6_take_ok 8 rfl) rfl (by decide) rfl ?_
    refine go_icmp_ge (t := 41) (q := 18) (gDec iX6_take_ok 9 rfl) (by decide) rfl (fun c15 => False.elim (by rw [(hI.2.2.trans hT.tl)] at c15; exact nI_ge (a := i) (b := (gTl σ)) (by omega) (by omega) c15)) (fun c15 => ?_)
    refine go_aload_n (q := 19) (gDec iX6_take_ok 10 rfl) rfl rfl rfl ?_
    refine go_getr (r' := 364) (q := 22) fX6_14 (gDec iX6_take_ok 11 rfl) rfl (by decide) rfl ?_
    refine go_iload_n (q := 23) (gDec iX6_take_ok 12 rfl) rfl rfl rfl ?_
    refine go_aload_n (q := 24) (gDec iX6_take_ok 13 rfl) rfl rfl rfl ?_
    refine go_aload_n (q := 25) (gDec iX6_take_ok 14 rfl) rfl rfl rfl ?_
    refine go_iload_n (q := 26) (gDec iX6_take_ok 15 rfl) rfl rfl rfl ?_
    refine go_callV (n2 := 0) (q := 29) kX6_53 (ctX9_signAt (by omega)) (gDec iX6_take_ok 16 rfl) rfl rfl (by decide) rfl rfl rfl (Nat.le_of_ble_eq_true rfl) rfl (gFit_rm (by decide) (by decide)) rfl ?_
    refine go_callV (n2 := 0) (q := 32) kX6_57 (ctX5_glyphWith (N := gNg a) hW2.ng24 hW2.ng) (gDec iX6_take_ok 17 rfl) rfl rfl (by decide) rfl rfl rfl (Nat.le_of_ble_eq_true rfl) rfl (gFit_rm (by decide) (by decide)) rfl ?_
    refine go_top (v' := gFind (σ.1 4) (σ.1 355 i) 0 (gNg σ)) (by rw [hI.1 4 (by decide), hI.2.1, hI.1.ng]) ?_
    refine go_callV (n2 := 0) (q := 35) kX6_62 (ctX7_put (a := 365) rfl rfl (by decide) (by decide) (by omega) (by decide)) (gDec iX6_take_ok 18 rfl) rfl rfl (by decide) rfl rfl rfl (Nat.le_of_ble_eq_true rfl) rfl (gFit_rm (by decide) (by decide)) rfl ?_
    refine go_iinc (v := nI (i + 1)) (q := 38) (gDec iX6_take_ok 19 rfl) rfl (nI_1 i) (by decide) rfl ?_
    refine go_goto (t := 10) (gDec iX6_take_ok 20 rfl) (by decide) ?_
    refine go_sub (L' := [(0, .ref (κ.2.1 + 363)), (1, .ref (κ.2.1 + 353)), (2, .ref (κ.2.1 + 2)), (3, .int (nI (i + 1)))]) ⟨rfl, rfl, rfl, rfl, trivial⟩ ?_
    exact ih (i + 1) ((gTkS σ) i a) (by omega) (gTkS_I i a hI) h

set_option maxHeartbeats 4000000 in
set_option maxRecDepth 100000 in
theorem ctX6_take {κ : gK} {σ : gST} (hW : gDW σ) (hT : gTW σ) : gCt κ mX6_take 3 [.ref (κ.2.1 + 363), .ref (κ.2.1 + 353), .ref (κ.2.1 + 2)] σ (.inl none) (gLoop (gTkS σ) 0 (gTl σ) (gPut σ 363 6 (σ.1 353 1))) 0 := by
  refine ct_of (by decide +kernel) rfl (Nat.le_of_ble_eq_true rfl) rfl ?_
  refine go_aload_n (q := 1) (gDec iX6_take_ok 0 rfl) rfl rfl rfl ?_
  refine go_aload_n (q := 2) (gDec iX6_take_ok 1 rfl) rfl rfl rfl ?_
  refine go_callV (n2 := 0) (q := 5) kX6_48 ctX9_length (gDec iX6_take_ok 2 rfl) rfl rfl (by decide) rfl rfl rfl (Nat.le_of_ble_eq_true rfl) rfl (gFit_rm (by decide) (by decide)) rfl ?_
  refine go_puti (q := 8) fX6_35 gft6 (gDec iX6_take_ok 3 rfl) rfl (by decide) rfl rfl rfl rfl ?_
  refine go_iconst (v := 0) (q := 9) (gDec iX6_take_ok 4 rfl) (by decide) rfl ?_
  refine go_istore_n (q := 10) (gDec iX6_take_ok 5 rfl) rfl (by decide) rfl ?_
  refine go_sub (L' := [(0, .ref (κ.2.1 + 363)), (1, .ref (κ.2.1 + 353)), (2, .ref (κ.2.1 + 2)), (3, .int (nI 0))]) ⟨rfl, rfl, rfl, rfl, trivial⟩ ?_
  refine lpX6_take hW hT (gTl σ) 0 _ (by omega) ⟨(gEqD.rf σ).put (by decide) _ _, gPut_ne _ _ _ (by decide), (by rw [gPut_at, if_pos ⟨rfl, rfl⟩])⟩ ?_
  exact go_return (gDec iX6_take_ok 21 rfl) rfl rfl rfl (by decide)

set_option maxHeartbeats 4000000 in
set_option maxRecDepth 100000 in
theorem ctX6_forget {κ : gK} {σ : gST}  : gCt κ mX6_forget 0 [.ref (κ.2.1 + 363)] σ (.inl none) (gPut σ 363 6 0) 0 := by
  refine ct_of (by decide +kernel) rfl (Nat.le_of_ble_eq_true rfl) rfl ?_
  refine go_aload_n (q := 1) (gDec iX6_forget_ok 0 rfl) rfl rfl rfl ?_
  refine go_iconst (v := 0) (q := 2) (gDec iX6_forget_ok 1 rfl) (by decide) rfl ?_
  refine go_puti (q := 5) fX6_35 gft6 (gDec iX6_forget_ok 2 rfl) rfl (by decide) rfl rfl rfl rfl ?_
  exact go_return (gDec iX6_forget_ok 3 rfl) rfl rfl rfl (by decide)

set_option maxHeartbeats 4000000 in
set_option maxRecDepth 100000 in
theorem ctX6_length {κ : gK} {σ : gST}  : gCt κ mX6_length 0 [.ref (κ.2.1 + 363)] σ (.inl (some (.int (σ.1 363 6)))) σ 0 := by
  refine ct_of (by decide +kernel) rfl (Nat.le_of_ble_eq_true rfl) rfl ?_
  refine go_aload_n (q := 1) (gDec iX6_length_ok 0 rfl) rfl rfl rfl ?_
  refine go_geti (q := 4) fX6_35 (gDec iX6_length_ok 1 rfl) rfl (by decide) rfl ?_
  exact go_ireturn (gDec iX6_length_ok 2 rfl) rfl rfl rfl rfl (by decide)

set_option maxHeartbeats 4000000 in
set_option maxRecDepth 100000 in
theorem ctX6_width {κ : gK} {σ : gST} {n : Nat} (hn : σ.1 363 6 = nI (n + 1)) (h60 : n < 60) : gCt κ mX6_width 1 [.ref (κ.2.1 + 363)] σ (.inl (some (.int (σ.1 369 n)))) σ 0 := by
  refine ct_of (by decide +kernel) rfl (Nat.le_of_ble_eq_true rfl) rfl ?_
  refine go_aload_n (q := 1) (gDec iX6_width_ok 0 rfl) rfl rfl rfl ?_
  refine go_getr (r' := 368) (q := 4) fX6_23 (gDec iX6_width_ok 1 rfl) rfl (by decide) rfl ?_
  refine go_aload_n (q := 5) (gDec iX6_width_ok 2 rfl) rfl rfl rfl ?_
  refine go_geti (q := 8) fX6_35 (gDec iX6_width_ok 3 rfl) rfl (by decide) rfl ?_
  refine go_top (v' := nI (n + 1)) (hn) ?_
  refine go_iconst (v := 1) (q := 9) (gDec iX6_width_ok 4 rfl) (by decide) rfl ?_
  refine go_isub (q := 10) (gDec iX6_width_ok 5 rfl) rfl ?_
  refine go_top (v' := nI n) (nI_pred n) ?_
  refine go_callV (n2 := 0) (q := 13) kX6_73 (ctX7_get (a := 369) rfl rfl (by decide) (by decide) (by omega) (by decide)) (gDec iX6_width_ok 6 rfl) rfl rfl (by decide) rfl rfl rfl (Nat.le_of_ble_eq_true rfl) rfl (gFit_rm (by decide) (by decide)) rfl ?_
  exact go_ireturn (gDec iX6_width_ok 7 rfl) rfl rfl rfl rfl (by decide)

set_option maxHeartbeats 4000000 in
set_option maxRecDepth 100000 in
theorem ctX6_placeOf {κ : gK} {σ : gST} {i : Nat} (hi : i < 60) : gCt κ mX6_placeOf 1 [.ref (κ.2.1 + 363), .int (nI i)] σ (.inl (some (.int (σ.1 367 i)))) σ 0 := by
  refine ct_of (by decide +kernel) rfl (Nat.le_of_ble_eq_true rfl) rfl ?_
  refine go_aload_n (q := 1) (gDec iX6_placeOf_ok 0 rfl) rfl rfl rfl ?_
  refine go_getr (r' := 366) (q := 4) fX6_20 (gDec iX6_placeOf_ok 1 rfl) rfl (by decide) rfl ?_
  refine go_iload_n (q := 5) (gDec iX6_placeOf_ok 2 rfl) rfl rfl rfl ?_
  refine go_callV (n2 := 0) (q := 8) kX6_73 (ctX7_get (a := 367) rfl rfl (by decide) (by decide) (by omega) (by decide)) (gDec iX6_placeOf_ok 3 rfl) rfl rfl (by decide) rfl rfl rfl (Nat.le_of_ble_eq_true rfl) rfl (gFit_rm (by decide) (by decide)) rfl ?_
  exact go_ireturn (gDec iX6_placeOf_ok 4 rfl) rfl rfl rfl rfl (by decide)

set_option maxHeartbeats 4000000 in
set_option maxRecDepth 100000 in
theorem ctX6_lineWidth {κ : gK} {σ : gST} {i : Nat} (hi : i < 60) : gCt κ mX6_lineWidth 1 [.ref (κ.2.1 + 363), .int (nI i)] σ (.inl (some (.int (σ.1 371 i)))) σ 0 := by
  refine ct_of (by decide +kernel) rfl (Nat.le_of_ble_eq_true rfl) rfl ?_
  refine go_aload_n (q := 1) (gDec iX6_lineWidth_ok 0 rfl) rfl rfl rfl ?_
  refine go_getr (r' := 370) (q := 4) fX6_26 (gDec iX6_lineWidth_ok 1 rfl) rfl (by decide) rfl ?_
  refine go_iload_n (q := 5) (gDec iX6_lineWidth_ok 2 rfl) rfl rfl rfl ?_
  refine go_callV (n2 := 0) (q := 8) kX6_73 (ctX7_get (a := 371) rfl rfl (by decide) (by decide) (by omega) (by decide)) (gDec iX6_lineWidth_ok 3 rfl) rfl rfl (by decide) rfl rfl rfl (Nat.le_of_ble_eq_true rfl) rfl (gFit_rm (by decide) (by decide)) rfl ?_
  exact go_ireturn (gDec iX6_lineWidth_ok 4 rfl) rfl rfl rfl rfl (by decide)

set_option maxHeartbeats 4000000 in
set_option maxRecDepth 100000 in
theorem ctX6_lineStart {κ : gK} {σ : gST} {i : Nat} (hi : i < 60) : gCt κ mX6_lineStart 1 [.ref (κ.2.1 + 363), .int (nI i)] σ (.inl (some (.int (σ.1 373 i)))) σ 0 := by
  refine ct_of (by decide +kernel) rfl (Nat.le_of_ble_eq_true rfl) rfl ?_
  refine go_aload_n (q := 1) (gDec iX6_lineStart_ok 0 rfl) rfl rfl rfl ?_
  refine go_getr (r' := 372) (q := 4) fX6_29 (gDec iX6_lineStart_ok 1 rfl) rfl (by decide) rfl ?_
  refine go_iload_n (q := 5) (gDec iX6_lineStart_ok 2 rfl) rfl rfl rfl ?_
  refine go_callV (n2 := 0) (q := 8) kX6_73 (ctX7_get (a := 373) rfl rfl (by decide) (by decide) (by omega) (by decide)) (gDec iX6_lineStart_ok 3 rfl) rfl rfl (by decide) rfl rfl rfl (Nat.le_of_ble_eq_true rfl) rfl (gFit_rm (by decide) (by decide)) rfl ?_
  exact go_ireturn (gDec iX6_lineStart_ok 4 rfl) rfl rfl rfl rfl (by decide)

set_option maxHeartbeats 4000000 in
set_option maxRecDepth 100000 in
theorem ctX6_lineWords {κ : gK} {σ : gST} {i : Nat} (hi : i < 60) : gCt κ mX6_lineWords 1 [.ref (κ.2.1 + 363), .int (nI i)] σ (.inl (some (.int (σ.1 375 i)))) σ 0 := by
  refine ct_of (by decide +kernel) rfl (Nat.le_of_ble_eq_true rfl) rfl ?_
  refine go_aload_n (q := 1) (gDec iX6_lineWords_ok 0 rfl) rfl rfl rfl ?_
  refine go_getr (r' := 374) (q := 4) fX6_32 (gDec iX6_lineWords_ok 1 rfl) rfl (by decide) rfl ?_
  refine go_iload_n (q := 5) (gDec iX6_lineWords_ok 2 rfl) rfl rfl rfl ?_
  refine go_callV (n2 := 0) (q := 8) kX6_73 (ctX7_get (a := 375) rfl rfl (by decide) (by decide) (by omega) (by decide)) (gDec iX6_lineWords_ok 3 rfl) rfl rfl (by decide) rfl rfl rfl (Nat.le_of_ble_eq_true rfl) rfl (gFit_rm (by decide) (by decide)) rfl ?_
  exact go_ireturn (gDec iX6_lineWords_ok 4 rfl) rfl rfl rfl rfl (by decide)

set_option maxHeartbeats 4000000 in
set_option maxRecDepth 100000 in
theorem ctX6_lineCount {κ : gK} {σ : gST}  : gCt κ mX6_lineCount 0 [.ref (κ.2.1 + 363)] σ (.inl (some (.int (σ.1 363 8)))) σ 0 := by
  refine ct_of (by decide +kernel) rfl (Nat.le_of_ble_eq_true rfl) rfl ?_
  refine go_aload_n (q := 1) (gDec iX6_lineCount_ok 0 rfl) rfl rfl rfl ?_
  refine go_geti (q := 4) fX6_42 (gDec iX6_lineCount_ok 1 rfl) rfl (by decide) rfl ?_
  exact go_ireturn (gDec iX6_lineCount_ok 2 rfl) rfl rfl rfl rfl (by decide)

set_option maxHeartbeats 4000000 in
set_option maxRecDepth 100000 in
theorem ctX6_isSpace {κ : gK} {σ : gST} {i : Nat} (hP : gPW σ) (hi : i < 1000) : gCt κ mX6_isSpace 1 [.ref (κ.2.1 + 363), .int (nI i)] σ (.inl (some (.int (if gPg σ i = none then 1 else 0)))) σ 0 := by
  have h60 := hP.pl60
  refine ct_of (by decide +kernel) rfl (Nat.le_of_ble_eq_true rfl) rfl ?_
  by_cases hl : i < gPl_ σ
  · have hg := hP.gl (i := i) (by omega)
    cases hc : oA (σ.1 365 i) with
    | none =>
      rw [hc] at hg
      have hv : gPg σ i = none := (if_pos hl).trans hc
      refine go_iload_n (q := 1) (gDec iX6_isSpace_ok 0 rfl) rfl rfl rfl ?_
      refine go_if_lt (t := 24) (q := 4) (gDec iX6_isSpace_ok 1 rfl) (by decide) rfl (fun c1 => False.elim (nI_pos (n := i) (by omega) c1)) (fun c1 => ?_)
      refine go_iload_n (q := 5) (gDec iX6_isSpace_ok 2 rfl) rfl rfl rfl ?_
      refine go_aload_n (q := 6) (gDec iX6_isSpace_ok 3 rfl) rfl rfl rfl ?_
      refine go_geti (q := 9) fX6_35 (gDec iX6_isSpace_ok 4 rfl) rfl (by decide) rfl ?_
      refine go_icmp_ge (t := 24) (q := 12) (gDec iX6_isSpace_ok 5 rfl) (by decide) rfl (fun c9 => False.elim (by rw [hP.pl] at c9; exact nI_ge hl (by omega) c9)) (fun c9 => ?_)
      refine go_aload_n (q := 13) (gDec iX6_isSpace_ok 6 rfl) rfl rfl rfl ?_
      refine go_getr (r' := 364) (q := 16) fX6_14 (gDec iX6_isSpace_ok 7 rfl) rfl (by decide) rfl ?_
      refine go_iload_n (q := 17) (gDec iX6_isSpace_ok 8 rfl) rfl rfl rfl ?_
      refine go_callV (n2 := 0) (q := 20) kX6_73 (ctX7_get (a := 365) rfl rfl (by decide) (by decide) (by omega) (by decide)) (gDec iX6_isSpace_ok 9 rfl) rfl rfl (by decide) rfl rfl rfl (Nat.le_of_ble_eq_true rfl) rfl (gFit_rm (by decide) (by decide)) rfl ?_
      refine go_iconst (v := (-1)) (q := 21) (gDec iX6_isSpace_ok 10 rfl) (by decide) rfl ?_
      refine go_icmp_ne (t := 28) (q := 24) (gDec iX6_isSpace_ok 11 rfl) (by decide) rfl (fun c21 => False.elim (c21 hg)) (fun c21 => ?_)
      refine go_iconst (v := 1) (q := 25) (gDec iX6_isSpace_ok 12 rfl) (by decide) rfl ?_
      refine go_goto (t := 29) (gDec iX6_isSpace_ok 13 rfl) (by decide) ?_
      exact go_ireturn (gDec iX6_isSpace_ok 15 rfl) rfl rfl (by rw [if_pos hv]) rfl (by decide)
    | some b =>
      rw [hc] at hg
      have hb := hP.gl24 (i := i) (by omega) hc
      have hv : ¬ gPg σ i = none := by rw [show gPg σ i = some b from (if_pos hl).trans hc]; intro h; cases h
      refine go_iload_n (q := 1) (gDec iX6_isSpace_ok 0 rfl) rfl rfl rfl ?_
      refine go_if_lt (t := 24) (q := 4) (gDec iX6_isSpace_ok 1 rfl) (by decide) rfl (fun c1 => False.elim (nI_pos (n := i) (by omega) c1)) (fun c1 => ?_)
      refine go_iload_n (q := 5) (gDec iX6_isSpace_ok 2 rfl) rfl rfl rfl ?_
      refine go_aload_n (q := 6) (gDec iX6_isSpace_ok 3 rfl) rfl rfl rfl ?_
      refine go_geti (q := 9) fX6_35 (gDec iX6_isSpace_ok 4 rfl) rfl (by decide) rfl ?_
      refine go_icmp_ge (t := 24) (q := 12) (gDec iX6_isSpace_ok 5 rfl) (by decide) rfl (fun c9 => False.elim (by rw [hP.pl] at c9; exact nI_ge hl (by omega) c9)) (fun c9 => ?_)
      refine go_aload_n (q := 13) (gDec iX6_isSpace_ok 6 rfl) rfl rfl rfl ?_
      refine go_getr (r' := 364) (q := 16) fX6_14 (gDec iX6_isSpace_ok 7 rfl) rfl (by decide) rfl ?_
      refine go_iload_n (q := 17) (gDec iX6_isSpace_ok 8 rfl) rfl rfl rfl ?_
      refine go_callV (n2 := 0) (q := 20) kX6_73 (ctX7_get (a := 365) rfl rfl (by decide) (by decide) (by omega) (by decide)) (gDec iX6_isSpace_ok 9 rfl) rfl rfl (by decide) rfl rfl rfl (Nat.le_of_ble_eq_true rfl) rfl (gFit_rm (by decide) (by decide)) rfl ?_
      refine go_iconst (v := (-1)) (q := 21) (gDec iX6_isSpace_ok 10 rfl) (by decide) rfl ?_
      refine go_icmp_ne (t := 28) (q := 24) (gDec iX6_isSpace_ok 11 rfl) (by decide) rfl (fun c21 => ?_) (fun c21 => False.elim (lI_some (b := b) (by omega) (hg.symm.trans c21)))
      refine go_iconst (v := 0) (q := 29) (gDec iX6_isSpace_ok 14 rfl) (by decide) rfl ?_
      exact go_ireturn (gDec iX6_isSpace_ok 15 rfl) rfl rfl (by rw [if_neg hv]) rfl (by decide)
  · have hv : gPg σ i = none := if_neg hl
    refine go_iload_n (q := 1) (gDec iX6_isSpace_ok 0 rfl) rfl rfl rfl ?_
    refine go_if_lt (t := 24) (q := 4) (gDec iX6_isSpace_ok 1 rfl) (by decide) rfl (fun c1 => False.elim (nI_pos (n := i) (by omega) c1)) (fun c1 => ?_)
    refine go_iload_n (q := 5) (gDec iX6_isSpace_ok 2 rfl) rfl rfl rfl ?_
    refine go_aload_n (q := 6) (gDec iX6_isSpace_ok 3 rfl) rfl rfl rfl ?_
    refine go_geti (q := 9) fX6_35 (gDec iX6_isSpace_ok 4 rfl) rfl (by decide) rfl ?_
    refine go_icmp_ge (t := 24) (q := 12) (gDec iX6_isSpace_ok 5 rfl) (by decide) rfl (fun c9 => ?_) (fun c9 => False.elim (c9 (by rw [hP.pl]; exact nI_le (by omega) (by omega))))
    refine go_iconst (v := 1) (q := 25) (gDec iX6_isSpace_ok 12 rfl) (by decide) rfl ?_
    refine go_goto (t := 29) (gDec iX6_isSpace_ok 13 rfl) (by decide) ?_
    exact go_ireturn (gDec iX6_isSpace_ok 15 rfl) rfl rfl (by rw [if_pos hv]) rfl (by decide)
