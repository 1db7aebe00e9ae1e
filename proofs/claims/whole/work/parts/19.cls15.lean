/-- a truth value -/
def g01 (x : Int32) : Prop := x = 0 ∨ x = 1
theorem g01.nz {x : Int32} (h : g01 x) : narrow .boolean (.int x) = .int x := by rcases h with h | h <;> subst h <;> rfl
theorem g01_if {p : Prop} [Decidable p] : g01 (if p then 1 else 0) := by unfold g01; split <;> simp
theorem gWi_01 (v lo hi : Int) : g01 (gWi v lo hi) := g01_if
theorem gA0_01 (σ : gST) (c : Int32) : g01 (gA0 σ c).1 := gWi_01 _ _ _
theorem gAf_01 (σ : gST) (c : Int32) : g01 (gAf σ c).1 := gWi_01 _ _ _
theorem gA1_01 (σ : gST) (c : Int32) : g01 (gA1 σ c).1 := g01_if
theorem gAk_01 (σ : gST) (c : Int32) : g01 (gAk σ c).1 := g01_if
theorem gAp_01 (σ : gST) (c : Int32) : g01 (gAp σ c).1 := by
  unfold gAp
  split
  · exact Or.inr rfl
  · exact g01_if
theorem gAn_0 {σ : gST} {c : Int32} (h : (gAn σ c).1 = 0) : (gAn σ c).2 = σ := by
  unfold gAn at h ⊢
  split
  · rfl
  · split
    · rfl
    · split
      · rename_i h1 h2 h3
        rw [if_neg h1, if_neg h2, if_pos h3] at h
        exact absurd (show (1 : Int32) = 0 from h) (by decide)
      · rfl
theorem gAcc_0 {σ : gST} {c : Int32} (h : nA (σ.1 356 3) = 0) : gAcc σ c = gA0 σ c := by unfold gAcc; rw [h]; rfl
theorem gAcc_1 {σ : gST} {c : Int32} (h : nA (σ.1 356 3) = 1) : gAcc σ c = gA1 σ c := by unfold gAcc; rw [h]; rfl
theorem gAcc_5 {σ : gST} {c : Int32} (h : nA (σ.1 356 3) = 5) : gAcc σ c = gA1 σ c := by unfold gAcc; rw [h]; rfl
theorem gAcc_3 {σ : gST} {c : Int32} (h : nA (σ.1 356 3) = 3) : gAcc σ c = gAf σ c := by unfold gAcc; rw [h]; rfl
theorem gAcc_2 {σ : gST} {c : Int32} (h : nA (σ.1 356 3) = 2) : gAcc σ c = if (gAm σ c).1 = 0 then (if (gAf (gAm σ c).2 c).1 = 0 then 0 else 1, (gAf (gAm σ c).2 c).2) else (1, (gAm σ c).2) := by unfold gAcc; rw [h]; rfl
theorem gAcc_4 {σ : gST} {c : Int32} (h : nA (σ.1 356 3) = 4) : gAcc σ c = if (gAn σ c).1 = 0 then (if (gAe (gAn σ c).2 c).1 = 0 then 0 else 1, (gAe (gAn σ c).2 c).2) else (1, (gAn σ c).2) := by unfold gAcc; rw [h]; rfl

set_option maxHeartbeats 4000000 in
set_option maxRecDepth 100000 in
theorem ctX2_acceptsEndOfNumber {κ : gK} {σ : gST} {c : Int32} {p k : Nat} (hp : σ.1 356 6 = nI p) (hp60 : p < 60) (hk : σ.1 356 5 = nI k) (hk60 : k < 60) : gCt κ mX2_acceptsEndOfNumber 2 [.ref (κ.2.1 + 356), .int c] σ (.inl (some (.int (gAe σ c).1))) (gAe σ c).2 0 := by
  refine ct_of (by decide +kernel) rfl (Nat.le_of_ble_eq_true rfl) rfl ?_
  refine go_aload_n (q := 1) (gDec iX2_acceptsEndOfNumber_ok 0 rfl) rfl rfl rfl ?_
  refine go_geti (q := 4) fX2_42 (gDec iX2_acceptsEndOfNumber_ok 1 rfl) rfl (by decide) rfl ?_
  refine go_if_eq (t := 15) (q := 7) (gDec iX2_acceptsEndOfNumber_ok 2 rfl) (by decide) rfl (fun c4 => ?_) (fun c4 => ?_)
  · refine go_aload_n (q := 16) (gDec iX2_acceptsEndOfNumber_ok 7 rfl) rfl rfl rfl ?_
    refine go_iload_n (q := 17) (gDec iX2_acceptsEndOfNumber_ok 8 rfl) rfl rfl rfl ?_
    refine go_callV (n2 := 0) (q := 20) kX2_125 (ctX2_acceptsComma hp hp60) (gDec iX2_acceptsEndOfNumber_ok 9 rfl) rfl rfl (by decide) rfl rfl rfl (Nat.le_of_ble_eq_true rfl) rfl (gFit_rm (by decide) (by decide)) rfl ?_
    exact go_ireturn (gDec iX2_acceptsEndOfNumber_ok 10 rfl) rfl (by first | exact (gAk_01 _ _).nz | exact (gAp_01 _ _).nz) (by unfold gAe; first | rw [if_pos c4] | rw [if_neg c4]) (by unfold gAe; first | rw [if_pos c4] | rw [if_neg c4]) (by decide)
  · refine go_aload_n (q := 8) (gDec iX2_acceptsEndOfNumber_ok 3 rfl) rfl rfl rfl ?_
    refine go_iload_n (q := 9) (gDec iX2_acceptsEndOfNumber_ok 4 rfl) rfl rfl rfl ?_
    refine go_callV (n2 := 0) (q := 12) kX2_122 (ctX2_acceptsEndOfPoint hp hp60 hk hk60) (gDec iX2_acceptsEndOfNumber_ok 5 rfl) rfl rfl (by decide) rfl rfl rfl (Nat.le_of_ble_eq_true rfl) rfl (gFit_rm (by decide) (by decide)) rfl ?_
    refine go_goto (t := 20) (gDec iX2_acceptsEndOfNumber_ok 6 rfl) (by decide) ?_
    exact go_ireturn (gDec iX2_acceptsEndOfNumber_ok 10 rfl) rfl (by first | exact (gAk_01 _ _).nz | exact (gAp_01 _ _).nz) (by unfold gAe; first | rw [if_pos c4] | rw [if_neg c4]) (by unfold gAe; first | rw [if_pos c4] | rw [if_neg c4]) (by decide)

set_option maxHeartbeats 4000000 in
set_option maxRecDepth 100000 in
theorem ctX2_accepts {κ : gK} {σ : gST} {s : Nat} {c : Int32} {p k : Nat} (hp : σ.1 356 6 = nI p) (hp60 : p < 60) (hk : σ.1 356 5 = nI k) (hk60 : k < 60) (hs5 : s ≤ 5) (hs : σ.1 356 3 = nI s) : gCt κ mX2_accepts 3 [.ref (κ.2.1 + 356), .int c] σ (.inl (some (.int (gAcc σ c).1))) (gAcc σ c).2 0 := by
  refine ct_of (by decide +kernel) rfl (Nat.le_of_ble_eq_true rfl) rfl ?_
  have hna : nA (σ.1 356 3) = s := by rw [hs]; exact nA_nI (by omega)
  refine go_aload_n (q := 1) (gDec iX2_accepts_ok 0 rfl) rfl rfl rfl ?_
  refine go_geti (q := 4) fX2_26 (gDec iX2_accepts_ok 1 rfl) rfl (by decide) rfl ?_
  skip
  rcases (by omega : s = 0 ∨ s = 1 ∨ s = 2 ∨ s = 3 ∨ s = 4 ∨ s = 5) with h9 | h9 | h9 | h9 | h9 | h9 <;> subst h9
  · skip
    refine go_top (v' := nI 0) hs ?_
    refine go_tableIn (off := 36) (t := 40) (gDec iX2_accepts_ok 2 rfl) (by decide) (by decide) rfl (by decide) ?_
    refine go_aload_n (q := 41) (gDec iX2_accepts_ok 3 rfl) rfl rfl rfl ?_
    refine go_iload_n (q := 42) (gDec iX2_accepts_ok 4 rfl) rfl rfl rfl ?_
    refine go_callV (n2 := 0) (q := 45) kX2_93 ctX2_acceptsCode (gDec iX2_accepts_ok 5 rfl) rfl rfl (by decide) rfl rfl rfl (Nat.le_of_ble_eq_true rfl) rfl (gFit_rm (by decide) (by decide)) rfl ?_
    exact go_ireturn (gDec iX2_accepts_ok 6 rfl) rfl (gA0_01 _ _).nz (by rw [gAcc_0 hna]) (by rw [gAcc_0 hna]) (by decide)
  · skip
    refine go_top (v' := nI 1) hs ?_
    refine go_tableIn (off := 92) (t := 96) (gDec iX2_accepts_ok 2 rfl) (by decide) (by decide) rfl (by decide) ?_
    refine go_aload_n (q := 97) (gDec iX2_accepts_ok 35 rfl) rfl rfl rfl ?_
    refine go_iload_n (q := 98) (gDec iX2_accepts_ok 36 rfl) rfl rfl rfl ?_
    refine go_callV (n2 := 0) (q := 101) kX2_108 ctX2_acceptsOpening (gDec iX2_accepts_ok 37 rfl) rfl rfl (by decide) rfl rfl rfl (Nat.le_of_ble_eq_true rfl) rfl (gFit_rm (by decide) (by decide)) rfl ?_
    exact go_ireturn (gDec iX2_accepts_ok 38 rfl) rfl (gA1_01 _ _).nz (by rw [gAcc_1 hna]) (by rw [gAcc_1 hna]) (by decide)
  · skip
    refine go_top (v' := nI 2) hs ?_
    refine go_tableIn (off := 42) (t := 46) (gDec iX2_accepts_ok 2 rfl) (by decide) (by decide) rfl (by decide) ?_
    refine go_aload_n (q := 47) (gDec iX2_accepts_ok 7 rfl) rfl rfl rfl ?_
    refine go_iload_n (q := 48) (gDec iX2_accepts_ok 8 rfl) rfl rfl rfl ?_
    refine go_callV (n2 := 0) (q := 51) kX2_96 ctX2_acceptsMinus (gDec iX2_accepts_ok 9 rfl) rfl rfl (by decide) rfl rfl rfl (Nat.le_of_ble_eq_true rfl) rfl (gFit_rm (by decide) (by decide)) rfl ?_
    refine go_if_ne (t := 62) (q := 54) (gDec iX2_accepts_ok 10 rfl) (by decide) rfl (fun c51 => ?_) (fun c51 => ?_)
    · refine go_iconst (v := 1) (q := 63) (gDec iX2_accepts_ok 15 rfl) (by decide) rfl ?_
      refine go_goto (t := 67) (gDec iX2_accepts_ok 16 rfl) (by decide) ?_
      exact go_ireturn (gDec iX2_accepts_ok 18 rfl) rfl rfl (by rw [gAcc_2 hna]; first | rw [if_neg c51] | (rw [if_pos c51]; first | (rw [if_pos c59]; done) | (rw [if_neg c59]; done) | rfl)) (by rw [gAcc_2 hna]; first | rw [if_neg c51] | rw [if_pos c51]) (by decide)
    · refine go_aload_n (q := 55) (gDec iX2_accepts_ok 11 rfl) rfl rfl rfl ?_
      refine go_iload_n (q := 56) (gDec iX2_accepts_ok 12 rfl) rfl rfl rfl ?_
      refine go_callV (n2 := 0) (q := 59) kX2_99 ctX2_acceptsFirstDigit (gDec iX2_accepts_ok 13 rfl) rfl rfl (by decide) rfl rfl rfl (Nat.le_of_ble_eq_true rfl) rfl (gFit_rm (by decide) (by decide)) rfl ?_
      refine go_if_eq (t := 66) (q := 62) (gDec iX2_accepts_ok 14 rfl) (by decide) rfl (fun c59 => ?_) (fun c59 => ?_)
      · refine go_iconst (v := 0) (q := 67) (gDec iX2_accepts_ok 17 rfl) (by decide) rfl ?_
        exact go_ireturn (gDec iX2_accepts_ok 18 rfl) rfl rfl (by rw [gAcc_2 hna]; first | rw [if_neg c51] | (rw [if_pos c51]; first | (rw [if_pos c59]; done) | (rw [if_neg c59]; done) | rfl)) (by rw [gAcc_2 hna]; first | rw [if_neg c51] | rw [if_pos c51]) (by decide)
      · refine go_iconst (v := 1) (q := 63) (gDec iX2_accepts_ok 15 rfl) (by decide) rfl ?_
        refine go_goto (t := 67) (gDec iX2_accepts_ok 16 rfl) (by decide) ?_
        exact go_ireturn (gDec iX2_accepts_ok 18 rfl) rfl rfl (by rw [gAcc_2 hna]; first | rw [if_neg c51] | (rw [if_pos c51]; first | (rw [if_pos c59]; done) | (rw [if_neg c59]; done) | rfl)) (by rw [gAcc_2 hna]; first | rw [if_neg c51] | rw [if_pos c51]) (by decide)
  · skip
    refine go_top (v' := nI 3) hs ?_
    refine go_tableIn (off := 64) (t := 68) (gDec iX2_accepts_ok 2 rfl) (by decide) (by decide) rfl (by decide) ?_
    refine go_aload_n (q := 69) (gDec iX2_accepts_ok 19 rfl) rfl rfl rfl ?_
    refine go_iload_n (q := 70) (gDec iX2_accepts_ok 20 rfl) rfl rfl rfl ?_
    refine go_callV (n2 := 0) (q := 73) kX2_99 ctX2_acceptsFirstDigit (gDec iX2_accepts_ok 21 rfl) rfl rfl (by decide) rfl rfl rfl (Nat.le_of_ble_eq_true rfl) rfl (gFit_rm (by decide) (by decide)) rfl ?_
    exact go_ireturn (gDec iX2_accepts_ok 22 rfl) rfl (gAf_01 _ _).nz (by rw [gAcc_3 hna]) (by rw [gAcc_3 hna]) (by decide)
  · skip
    refine go_top (v' := nI 4) hs ?_
    refine go_tableIn (off := 70) (t := 74) (gDec iX2_accepts_ok 2 rfl) (by decide) (by decide) rfl (by decide) ?_
    refine go_aload_n (q := 75) (gDec iX2_accepts_ok 23 rfl) rfl rfl rfl ?_
    refine go_iload_n (q := 76) (gDec iX2_accepts_ok 24 rfl) rfl rfl rfl ?_
    refine go_callV (n2 := 0) (q := 79) kX2_102 ctX2_acceptsNextDigit (gDec iX2_accepts_ok 25 rfl) rfl rfl (by decide) rfl rfl rfl (Nat.le_of_ble_eq_true rfl) rfl (gFit_rm (by decide) (by decide)) rfl ?_
    refine go_if_ne (t := 90) (q := 82) (gDec iX2_accepts_ok 26 rfl) (by decide) rfl (fun c79 => ?_) (fun c79 => ?_)
    · refine go_iconst (v := 1) (q := 91) (gDec iX2_accepts_ok 31 rfl) (by decide) rfl ?_
      refine go_goto (t := 95) (gDec iX2_accepts_ok 32 rfl) (by decide) ?_
      exact go_ireturn (gDec iX2_accepts_ok 34 rfl) rfl rfl (by rw [gAcc_4 hna]; first | rw [if_neg c79] | (rw [if_pos c79, gAn_0 c79]; first | (rw [if_pos c87]; done) | (rw [if_neg c87]; done) | rfl)) (by rw [gAcc_4 hna]; first | rw [if_neg c79] | rw [if_pos c79, gAn_0 c79]) (by decide)
    · refine go_w (gAn_0 c79) ?_
      refine go_aload_n (q := 83) (gDec iX2_accepts_ok 27 rfl) rfl rfl rfl ?_
      refine go_iload_n (q := 84) (gDec iX2_accepts_ok 28 rfl) rfl rfl rfl ?_
      refine go_callV (n2 := 0) (q := 87) kX2_105 (ctX2_acceptsEndOfNumber hp hp60 hk hk60) (gDec iX2_accepts_ok 29 rfl) rfl rfl (by decide) rfl rfl rfl (Nat.le_of_ble_eq_true rfl) rfl (gFit_rm (by decide) (by decide)) rfl ?_
      refine go_if_eq (t := 94) (q := 90) (gDec iX2_accepts_ok 30 rfl) (by decide) rfl (fun c87 => ?_) (fun c87 => ?_)
      · refine go_iconst (v := 0) (q := 95) (gDec iX2_accepts_ok 33 rfl) (by decide) rfl ?_
        exact go_ireturn (gDec iX2_accepts_ok 34 rfl) rfl rfl (by rw [gAcc_4 hna]; first | rw [if_neg c79] | (rw [if_pos c79, gAn_0 c79]; first | (rw [if_pos c87]; done) | (rw [if_neg c87]; done) | rfl)) (by rw [gAcc_4 hna]; first | rw [if_neg c79] | rw [if_pos c79, gAn_0 c79]) (by decide)
      · refine go_iconst (v := 1) (q := 91) (gDec iX2_accepts_ok 31 rfl) (by decide) rfl ?_
        refine go_goto (t := 95) (gDec iX2_accepts_ok 32 rfl) (by decide) ?_
        exact go_ireturn (gDec iX2_accepts_ok 34 rfl) rfl rfl (by rw [gAcc_4 hna]; first | rw [if_neg c79] | (rw [if_pos c79, gAn_0 c79]; first | (rw [if_pos c87]; done) | (rw [if_neg c87]; done) | rfl)) (by rw [gAcc_4 hna]; first | rw [if_neg c79] | rw [if_pos c79, gAn_0 c79]) (by decide)
  · skip
    refine go_top (v' := nI 5) hs ?_
    refine go_tableOut (t := 96) (gDec iX2_accepts_ok 2 rfl) (by decide) (by decide) ?_
    refine go_aload_n (q := 97) (gDec iX2_accepts_ok 35 rfl) rfl rfl rfl ?_
    refine go_iload_n (q := 98) (gDec iX2_accepts_ok 36 rfl) rfl rfl rfl ?_
    refine go_callV (n2 := 0) (q := 101) kX2_108 ctX2_acceptsOpening (gDec iX2_accepts_ok 37 rfl) rfl rfl (by decide) rfl rfl rfl (Nat.le_of_ble_eq_true rfl) rfl (gFit_rm (by decide) (by decide)) rfl ?_
    exact go_ireturn (gDec iX2_accepts_ok 38 rfl) rfl (gA1_01 _ _).nz (by rw [gAcc_5 hna]) (by rw [gAcc_5 hna]) (by decide)

set_option maxHeartbeats 4000000 in
set_option maxRecDepth 100000 in
theorem ctX2_code {κ : gK} {σ : gST}  : gCt κ mX2_code 0 [.ref (κ.2.1 + 356)] σ (.inl (some (.int (σ.1 356 4)))) σ 0 := by
  refine ct_of (by decide +kernel) rfl (Nat.le_of_ble_eq_true rfl) rfl ?_
  refine go_aload_n (q := 1) (gDec iX2_code_ok 0 rfl) rfl rfl rfl ?_
  refine go_geti (q := 4) fX2_30 (gDec iX2_code_ok 1 rfl) rfl (by decide) rfl ?_
  exact go_ireturn (gDec iX2_code_ok 2 rfl) rfl rfl rfl rfl (by decide)
