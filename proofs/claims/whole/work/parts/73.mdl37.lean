def mQ (b s : gST) : Prop := (∀ k, k ≠ 376 → k ≠ 385 → k ≠ 386 → k ≠ 387 → s.1 k = b.1 k) ∧ (∀ j, j ≠ 17 → s.1 376 j = b.1 376 j) ∧ s.2 = b.2
theorem mTw_Q {τ b s : gST} {v x : Int32} (h60 : gPl_ τ ≤ 60) (h : mQ b s) : mQ b (mTw τ v x s) := by
  unfold mTw
  split
  · have hk := (pW_I τ (gPl_ τ)).1
    obtain ⟨h1, h2, h3, -⟩ := mBI_l (τ := τ) (b := s) (me := v) (pW τ (gPl_ τ)).1 0 (gPut s 376 17 0) (by omega) (mBI_0 s)
    exact ⟨fun k q1 q2 q3 q4 => (h1 k q1 q2 q3 q4).trans (h.1 k q1 q2 q3 q4), fun j hj => (h2 j hj).trans (h.2.1 j hj), h3.trans h.2.2⟩
  · exact h
def inC (τ : gST) (nn : Int32) (w : Nat) (a : (Int32 × Int32) × gST) : (Int32 × Int32) × gST := (pIn τ nn w a.1, mTw τ (a.1.1 + mMo τ w) a.1.2 a.2)
theorem inC_1 {τ : gST} {nn : Int32} : ∀ (m i : Nat) (a : (Int32 × Int32) × gST), (gLoop (inC τ nn) i m a).1 = gLoop (pIn τ nn) i m a.1 := by
  intro m
  induction m with
  | zero => intro i a; rw [gLoop_zero, gLoop_zero]
  | succ m ih => intro i a; rw [gLoop_f, gLoop_f, ih]; rfl
theorem inC_Q {τ b : gST} {nn : Int32} (h60 : gPl_ τ ≤ 60) (m i : Nat) (a : (Int32 × Int32) × gST) (h : mQ b a.2) : mQ b (gLoop (inC τ nn) i m a).2 :=
  gLoop_inv (I := fun a : (Int32 × Int32) × gST => mQ b a.2) (fun _ _ h => mTw_Q h60 h) m i a h
def ouC (τ : gST) (nn : Int32) (f : Nat) (a : Int32 × gST) : Int32 × gST :=
  ((gLoop (inC τ nn) (f + 1) ((pW τ (gPl_ τ)).1 - (f + 1)) ((pWd τ f, pTr τ nn (pWd τ f) a.1), mTw τ (pWd τ f) a.1 a.2)).1.2, (gLoop (inC τ nn) (f + 1) ((pW τ (gPl_ τ)).1 - (f + 1)) ((pWd τ f, pTr τ nn (pWd τ f) a.1), mTw τ (pWd τ f) a.1 a.2)).2)
theorem ouC_Q {τ b : gST} {nn : Int32} (h60 : gPl_ τ ≤ 60) (f : Nat) (a : Int32 × gST) (h : mQ b a.2) : mQ b (ouC τ nn f a).2 := inC_Q h60 _ _ _ (mTw_Q h60 h)
theorem ouC_1 {τ : gST} {nn : Int32} : ∀ (m i : Nat) (a : Int32 × gST), (gLoop (ouC τ nn) i m a).1 = gLoop (pOu τ nn) i m a.1 := by
  intro m
  induction m with
  | zero => intro i a; rw [gLoop_zero, gLoop_zero]
  | succ m ih =>
    intro i a
    rw [gLoop_f, gLoop_f, ih]
    have e : (ouC τ nn i a).1 = pOu τ nn i a.1 := by
      unfold ouC pOu
      dsimp only
      rw [inC_1]
    rw [e]

set_option maxHeartbeats 4000000 in
set_option maxRecDepth 100000 in
theorem ctX11_tried {κ : gK} {σ τ : gST} {v nn best : Int32} (hM : gMR τ (σ.1 377)) (h13 : σ.1 376 13 = nI (pW τ (gPl_ τ)).1) (h60 : gPl_ τ ≤ 60) (h84 : ∀ w, w < (pW τ (gPl_ τ)).1 → σ.1 384 w = pWd τ w) : gCt κ mX11_tried 2 [.ref (κ.2.1 + 376), .int v, .int nn, .int best] σ (.inl (some (.int (pTr τ nn v best)))) (mTw τ v best σ) 0 := by
  refine ct_of (by decide +kernel) rfl (Nat.le_of_ble_eq_true rfl) rfl ?_
  by_cases h1 : 1 ≤ v.toInt ∧ v.toInt ≤ 100000
  · by_cases h2 : best < 0
    · have hc : (1 ≤ v.toInt ∧ v.toInt ≤ 100000) ∧ (best < 0 ∨ v < best) := ⟨h1, Or.inl h2⟩
      rw [show mTw τ v best σ = mBr τ v σ from if_pos hc]
      by_cases h4 : nI (pL τ v).1 ≤ nn
      · rw [show pTr τ nn v best = v from if_pos ⟨hc, h4⟩]
        refine go_iload_n (q := 1) (gDec iX11_tried_ok 0 rfl) rfl rfl rfl ?_
        refine go_callS (n2 := 0) (q := 4) kX11_222 ctX11_isMeasure (gDec iX11_tried_ok 1 rfl) rfl rfl (Nat.le_of_ble_eq_true rfl) rfl (gFit_rm (by decide) (by decide)) rfl ?_
        refine go_top (v' := 1) (gWi_t (by (try rw [i2l_toInt]); exact h1)) ?_
        refine go_if_eq (t := 16) (q := 7) (gDec iX11_tried_ok 2 rfl) (by decide) rfl (fun c4 => False.elim (absurd c4 (by decide))) (fun c4 => ?_)
        refine go_iload_n (q := 8) (gDec iX11_tried_ok 3 rfl) rfl rfl rfl ?_
        refine go_if_lt (t := 18) (q := 11) (gDec iX11_tried_ok 4 rfl) (by decide) rfl (fun c8 => ?_) (fun c8 => False.elim (c8 h2))
        refine go_aload_n (q := 19) (gDec iX11_tried_ok 10 rfl) rfl rfl rfl ?_
        refine go_iload_n (q := 20) (gDec iX11_tried_ok 11 rfl) rfl rfl rfl ?_
        refine go_callV (n2 := 0) (q := 23) kX11_228 (ctX11_breakLines (τ := τ) hM h13 h60 h84) (gDec iX11_tried_ok 12 rfl) rfl rfl (by decide) rfl rfl rfl (Nat.le_of_ble_eq_true rfl) rfl (gFit_rm (by decide) (by decide)) rfl ?_
        refine go_aload_n (q := 24) (gDec iX11_tried_ok 13 rfl) rfl rfl rfl ?_
        refine go_geti (q := 27) fX11_215 (gDec iX11_tried_ok 14 rfl) rfl (by decide) rfl ?_
        refine go_top (v' := nI (pL τ v).1) (pL_m h60 v σ) ?_
        refine go_iload_n (q := 28) (gDec iX11_tried_ok 15 rfl) rfl rfl rfl ?_
        refine go_icmp_gt (t := 35) (q := 31) (gDec iX11_tried_ok 16 rfl) (by decide) rfl (fun c28 => False.elim (absurd h4 (Int32.not_le.mpr c28))) (fun c28 => ?_)
        refine go_iload_n (q := 32) (gDec iX11_tried_ok 17 rfl) rfl rfl rfl ?_
        refine go_goto (t := 36) (gDec iX11_tried_ok 18 rfl) (by decide) ?_
        exact go_ireturn (gDec iX11_tried_ok 20 rfl) rfl rfl rfl rfl (by decide)
      · rw [show pTr τ nn v best = best from if_neg (fun h9 => h4 h9.2)]
        refine go_iload_n (q := 1) (gDec iX11_tried_ok 0 rfl) rfl rfl rfl ?_
        refine go_callS (n2 := 0) (q := 4) kX11_222 ctX11_isMeasure (gDec iX11_tried_ok 1 rfl) rfl rfl (Nat.le_of_ble_eq_true rfl) rfl (gFit_rm (by decide) (by decide)) rfl ?_
        refine go_top (v' := 1) (gWi_t (by (try rw [i2l_toInt]); exact h1)) ?_
        refine go_if_eq (t := 16) (q := 7) (gDec iX11_tried_ok 2 rfl) (by decide) rfl (fun c4 => False.elim (absurd c4 (by decide))) (fun c4 => ?_)
        refine go_iload_n (q := 8) (gDec iX11_tried_ok 3 rfl) rfl rfl rfl ?_
        refine go_if_lt (t := 18) (q := 11) (gDec iX11_tried_ok 4 rfl) (by decide) rfl (fun c8 => ?_) (fun c8 => False.elim (c8 h2))
        refine go_aload_n (q := 19) (gDec iX11_tried_ok 10 rfl) rfl rfl rfl ?_
        refine go_iload_n (q := 20) (gDec iX11_tried_ok 11 rfl) rfl rfl rfl ?_
        refine go_callV (n2 := 0) (q := 23) kX11_228 (ctX11_breakLines (τ := τ) hM h13 h60 h84) (gDec iX11_tried_ok 12 rfl) rfl rfl (by decide) rfl rfl rfl (Nat.le_of_ble_eq_true rfl) rfl (gFit_rm (by decide) (by decide)) rfl ?_
        refine go_aload_n (q := 24) (gDec iX11_tried_ok 13 rfl) rfl rfl rfl ?_
        refine go_geti (q := 27) fX11_215 (gDec iX11_tried_ok 14 rfl) rfl (by decide) rfl ?_
        refine go_top (v' := nI (pL τ v).1) (pL_m h60 v σ) ?_
        refine go_iload_n (q := 28) (gDec iX11_tried_ok 15 rfl) rfl rfl rfl ?_
        refine go_icmp_gt (t := 35) (q := 31) (gDec iX11_tried_ok 16 rfl) (by decide) rfl (fun c28 => ?_) (fun c28 => False.elim (h4 (Int32.not_lt.mp c28)))
        refine go_iload_n (q := 36) (gDec iX11_tried_ok 19 rfl) rfl rfl rfl ?_
        exact go_ireturn (gDec iX11_tried_ok 20 rfl) rfl rfl rfl rfl (by decide)

    · by_cases h3 : v < best
      · have hc : (1 ≤ v.toInt ∧ v.toInt ≤ 100000) ∧ (best < 0 ∨ v < best) := ⟨h1, Or.inr h3⟩
        rw [show mTw τ v best σ = mBr τ v σ from if_pos hc]
        by_cases h4 : nI (pL τ v).1 ≤ nn
        · rw [show pTr τ nn v best = v from if_pos ⟨hc, h4⟩]
          refine go_iload_n (q := 1) (gDec iX11_tried_ok 0 rfl) rfl rfl rfl ?_
          refine go_callS (n2 := 0) (q := 4) kX11_222 ctX11_isMeasure (gDec iX11_tried_ok 1 rfl) rfl rfl (Nat.le_of_ble_eq_true rfl) rfl (gFit_rm (by decide) (by decide)) rfl ?_
          refine go_top (v' := 1) (gWi_t (by (try rw [i2l_toInt]); exact h1)) ?_
          refine go_if_eq (t := 16) (q := 7) (gDec iX11_tried_ok 2 rfl) (by decide) rfl (fun c4 => False.elim (absurd c4 (by decide))) (fun c4 => ?_)
          refine go_iload_n (q := 8) (gDec iX11_tried_ok 3 rfl) rfl rfl rfl ?_
          refine go_if_lt (t := 18) (q := 11) (gDec iX11_tried_ok 4 rfl) (by decide) rfl (fun c8 => False.elim (h2 c8)) (fun c8 => ?_)
          refine go_iload_n (q := 12) (gDec iX11_tried_ok 5 rfl) rfl rfl rfl ?_
          refine go_iload_n (q := 13) (gDec iX11_tried_ok 6 rfl) rfl rfl rfl ?_
          refine go_icmp_lt (t := 18) (q := 16) (gDec iX11_tried_ok 7 rfl) (by decide) rfl (fun c13 => ?_) (fun c13 => False.elim (c13 h3))
          refine go_aload_n (q := 19) (gDec iX11_tried_ok 10 rfl) rfl rfl rfl ?_
          refine go_iload_n (q := 20) (gDec iX11_tried_ok 11 rfl) rfl rfl rfl ?_
          refine go_callV (n2 := 0) (q := 23) kX11_228 (ctX11_breakLines (τ := τ) hM h13 h60 h84) (gDec iX11_tried_ok 12 rfl) rfl rfl (by decide) rfl rfl rfl (Nat.le_of_ble_eq_true rfl) rfl (gFit_rm (by decide) (by decide)) rfl ?_
          refine go_aload_n (q := 24) (gDec iX11_tried_ok 13 rfl) rfl rfl rfl ?_
          refine go_geti (q := 27) fX11_215 (gDec iX11_tried_ok 14 rfl) rfl (by decide) rfl ?_
          refine go_top (v' := nI (pL τ v).1) (pL_m h60 v σ) ?_
          refine go_iload_n (q := 28) (gDec iX11_tried_ok 15 rfl) rfl rfl rfl ?_
          refine go_icmp_gt (t := 35) (q := 31) (gDec iX11_tried_ok 16 rfl) (by decide) rfl (fun c28 => False.elim (absurd h4 (Int32.not_le.mpr c28))) (fun c28 => ?_)
          refine go_iload_n (q := 32) (gDec iX11_tried_ok 17 rfl) rfl rfl rfl ?_
          refine go_goto (t := 36) (gDec iX11_tried_ok 18 rfl) (by decide) ?_
          exact go_ireturn (gDec iX11_tried_ok 20 rfl) rfl rfl rfl rfl (by decide)
        · rw [show pTr τ nn v best = best from if_neg (fun h9 => h4 h9.2)]
          refine go_iload_n (q := 1) (gDec iX11_tried_ok 0 rfl) rfl rfl rfl ?_
          refine go_callS (n2 := 0) (q := 4) kX11_222 ctX11_isMeasure (gDec iX11_tried_ok 1 rfl) rfl rfl (Nat.le_of_ble_eq_true rfl) rfl (gFit_rm (by decide) (by decide)) rfl ?_
          refine go_top (v' := 1) (gWi_t (by (try rw [i2l_toInt]); exact h1)) ?_
          refine go_if_eq (t := 16) (q := 7) (gDec iX11_tried_ok 2 rfl) (by decide) rfl (fun c4 => False.elim (absurd c4 (by decide))) (fun c4 => ?_)
          refine go_iload_n (q := 8) (gDec iX11_tried_ok 3 rfl) rfl rfl rfl ?_
          refine go_if_lt (t := 18) (q := 11) (gDec iX11_tried_ok 4 rfl) (by decide) rfl (fun c8 => False.elim (h2 c8)) (fun c8 => ?_)
          refine go_iload_n (q := 12) (gDec iX11_tried_ok 5 rfl) rfl rfl rfl ?_
          refine go_iload_n (q := 13) (gDec iX11_tried_ok 6 rfl) rfl rfl rfl ?_
          refine go_icmp_lt (t := 18) (q := 16) (gDec iX11_tried_ok 7 rfl) (by decide) rfl (fun c13 => ?_) (fun c13 => False.elim (c13 h3))
          refine go_aload_n (q := 19) (gDec iX11_tried_ok 10 rfl) rfl rfl rfl ?_
          refine go_iload_n (q := 20) (gDec iX11_tried_ok 11 rfl) rfl rfl rfl ?_
          refine go_callV (n2 := 0) (q := 23) kX11_228 (ctX11_breakLines (τ := τ) hM h13 h60 h84) (gDec iX11_tried_ok 12 rfl) rfl rfl (by decide) rfl rfl rfl (Nat.le_of_ble_eq_true rfl) rfl (gFit_rm (by decide) (by decide)) rfl ?_
          refine go_aload_n (q := 24) (gDec iX11_tried_ok 13 rfl) rfl rfl rfl ?_
          refine go_geti (q := 27) fX11_215 (gDec iX11_tried_ok 14 rfl) rfl (by decide) rfl ?_
          refine go_top (v' := nI (pL τ v).1) (pL_m h60 v σ) ?_
          refine go_iload_n (q := 28) (gDec iX11_tried_ok 15 rfl) rfl rfl rfl ?_
          refine go_icmp_gt (t := 35) (q := 31) (gDec iX11_tried_ok 16 rfl) (by decide) rfl (fun c28 => ?_) (fun c28 => False.elim (h4 (Int32.not_lt.mp c28)))
          refine go_iload_n (q := 36) (gDec iX11_tried_ok 19 rfl) rfl rfl rfl ?_
          exact go_ireturn (gDec iX11_tried_ok 20 rfl) rfl rfl rfl rfl (by decide)

      · have hc : ¬ ((1 ≤ v.toInt ∧ v.toInt ≤ 100000) ∧ (best < 0 ∨ v < best)) := fun h9 => h9.2.elim h2 h3
        rw [show mTw τ v best σ = σ from if_neg hc, show pTr τ nn v best = best from if_neg (fun h9 => hc h9.1)]
        refine go_iload_n (q := 1) (gDec iX11_tried_ok 0 rfl) rfl rfl rfl ?_
        refine go_callS (n2 := 0) (q := 4) kX11_222 ctX11_isMeasure (gDec iX11_tried_ok 1 rfl) rfl rfl (Nat.le_of_ble_eq_true rfl) rfl (gFit_rm (by decide) (by decide)) rfl ?_
        refine go_top (v' := 1) (gWi_t (by (try rw [i2l_toInt]); exact h1)) ?_
        refine go_if_eq (t := 16) (q := 7) (gDec iX11_tried_ok 2 rfl) (by decide) rfl (fun c4 => False.elim (absurd c4 (by decide))) (fun c4 => ?_)
        refine go_iload_n (q := 8) (gDec iX11_tried_ok 3 rfl) rfl rfl rfl ?_
        refine go_if_lt (t := 18) (q := 11) (gDec iX11_tried_ok 4 rfl) (by decide) rfl (fun c8 => False.elim (h2 c8)) (fun c8 => ?_)
        refine go_iload_n (q := 12) (gDec iX11_tried_ok 5 rfl) rfl rfl rfl ?_
        refine go_iload_n (q := 13) (gDec iX11_tried_ok 6 rfl) rfl rfl rfl ?_
        refine go_icmp_lt (t := 18) (q := 16) (gDec iX11_tried_ok 7 rfl) (by decide) rfl (fun c13 => False.elim (h3 c13)) (fun c13 => ?_)
        refine go_iload_n (q := 17) (gDec iX11_tried_ok 8 rfl) rfl rfl rfl ?_
        exact go_ireturn (gDec iX11_tried_ok 9 rfl) rfl rfl rfl rfl (by decide)
  · have hc : ¬ ((1 ≤ v.toInt ∧ v.toInt ≤ 100000) ∧ (best < 0 ∨ v < best)) := fun h9 => h1 h9.1
    rw [show mTw τ v best σ = σ from if_neg hc, show pTr τ nn v best = best from if_neg (fun h9 => hc h9.1)]
    refine go_iload_n (q := 1) (gDec iX11_tried_ok 0 rfl) rfl rfl rfl ?_
    refine go_callS (n2 := 0) (q := 4) kX11_222 ctX11_isMeasure (gDec iX11_tried_ok 1 rfl) rfl rfl (Nat.le_of_ble_eq_true rfl) rfl (gFit_rm (by decide) (by decide)) rfl ?_
    refine go_top (v' := 0) (gWi_f (by (try rw [i2l_toInt]); exact h1)) ?_
    refine go_if_eq (t := 16) (q := 7) (gDec iX11_tried_ok 2 rfl) (by decide) rfl (fun c4 => ?_) (fun c4 => False.elim (c4 rfl))
    refine go_iload_n (q := 17) (gDec iX11_tried_ok 8 rfl) rfl rfl rfl ?_
    exact go_ireturn (gDec iX11_tried_ok 9 rfl) rfl rfl rfl rfl (by decide)

set_option maxHeartbeats 4000000 in
set_option maxRecDepth 100000 in
theorem lpX11_lm2 {κ : gK} {Z : gZ}  {τ b : gST} {nn : Int32} (hM : gMR τ (b.1 377)) (h13 : b.1 376 13 = nI (pW τ (gPl_ τ)).1) (h60 : gPl_ τ ≤ 60) (h84 : ∀ w, w < (pW τ (gPl_ τ)).1 → b.1 384 w = pWd τ w) {f : Nat} : ∀ (m i : Nat) (a : (Int32 × Int32) × gST), i + m = (pW τ (gPl_ τ)).1 → mQ b a.2 → Go κ mX11_leastMeasure (gRm 9 0) Z 108 [(0, .ref (κ.2.1 + 376)), (1, .int nn), (2, .int (gLoop (inC τ nn) i m a).1.2), (3, .int (nI f)), (4, .int (gLoop (inC τ nn) i m a).1.1), (5, .int (nI (pW τ (gPl_ τ)).1))] [] (gLoop (inC τ nn) i m a).2 0 → Go κ mX11_leastMeasure (gRm 9 0) Z 73 [(0, .ref (κ.2.1 + 376)), (1, .int nn), (2, .int a.1.2), (3, .int (nI f)), (4, .int a.1.1), (5, .int (nI i))] [] a.2 0 := by
  have hk := (pW_I τ (gPl_ τ)).1
  intro m
  induction m with
  | zero =>
    intro i a hi hI h
    have hiN : (pW τ (gPl_ τ)).1 = i := by omega
    rw [hiN] at h
    refine go_iload (q := 75) (gDec iX11_leastMeasure_ok 45 rfl) rfl rfl ?_
    refine go_aload_n (q := 76) (gDec iX11_leastMeasure_ok 46 rfl) rfl rfl rfl ?_
    refine go_geti (q := 79) fX11_212 (gDec iX11_leastMeasure_ok 47 rfl) rfl (by decide) rfl ?_
    refine go_top (v' := nI (pW τ (gPl_ τ)).1) ((hI.2.1 13 (by decide)).trans h13) ?_
    refine go_icmp_ge (t := 108) (q := 82) (gDec iX11_leastMeasure_ok 48 rfl) (by decide) rfl (fun c79 => ?_) (fun c79 => False.elim (c79 (nI_le (a := (pW τ (gPl_ τ)).1) (b := i) (by omega) (by omega))))
    refine go_sub (L' := [(0, .ref (κ.2.1 + 376)), (1, .int nn), (2, .int a.1.2), (3, .int (nI f)), (4, .int a.1.1), (5, .int (nI i))]) ⟨rfl, rfl, rfl, rfl, rfl, rfl, trivial⟩ ?_
    exact h
  | succ m ih =>
    intro i a hi hI h
    refine go_iload (q := 75) (gDec iX11_leastMeasure_ok 45 rfl) rfl rfl ?_
    refine go_aload_n (q := 76) (gDec iX11_leastMeasure_ok 46 rfl) rfl rfl rfl ?_
    refine go_geti (q := 79) fX11_212 (gDec iX11_leastMeasure_ok 47 rfl) rfl (by decide) rfl ?_
    refine go_top (v' := nI (pW τ (gPl_ τ)).1) ((hI.2.1 13 (by decide)).trans h13) ?_
    refine go_icmp_ge (t := 108) (q := 82) (gDec iX11_leastMeasure_ok 48 rfl) (by decide) rfl (fun c79 => False.elim (nI_ge (a := i) (b := (pW τ (gPl_ τ)).1) (by omega) (by omega) c79)) (fun c79 => ?_)
    refine go_iload (q := 84) (gDec iX11_leastMeasure_ok 49 rfl) rfl rfl ?_
    refine go_aload_n (q := 85) (gDec iX11_leastMeasure_ok 50 rfl) rfl rfl rfl ?_
    refine go_iload (q := 87) (gDec iX11_leastMeasure_ok 51 rfl) rfl rfl ?_
    refine go_callV (n2 := 0) (q := 90) kX11_218 (ctX11_more (τ := τ) (w := i) (by rw [hI.1 377 (by decide) (by decide) (by decide) (by decide)]; exact hM) (by omega) ((congrFun (hI.1 384 (by decide) (by decide) (by decide) (by decide)) _).trans (h84 _ (by omega)))) (gDec iX11_leastMeasure_ok 52 rfl) rfl rfl (by decide) rfl rfl rfl (Nat.le_of_ble_eq_true rfl) rfl (gFit_rm (by decide) (by decide)) rfl ?_
    refine go_iadd (q := 91) (gDec iX11_leastMeasure_ok 53 rfl) rfl ?_
    refine go_istore (q := 93) (gDec iX11_leastMeasure_ok 54 rfl) (by decide) rfl ?_
    refine go_aload_n (q := 94) (gDec iX11_leastMeasure_ok 55 rfl) rfl rfl rfl ?_
    refine go_iload (q := 96) (gDec iX11_leastMeasure_ok 56 rfl) rfl rfl ?_
    refine go_iload_n (q := 97) (gDec iX11_leastMeasure_ok 57 rfl) rfl rfl rfl ?_
    refine go_iload_n (q := 98) (gDec iX11_leastMeasure_ok 58 rfl) rfl rfl rfl ?_
    refine go_callV (n2 := 0) (q := 101) kX11_232 (ctX11_tried (τ := τ) (by rw [hI.1 377 (by decide) (by decide) (by decide) (by decide)]; exact hM) ((hI.2.1 13 (by decide)).trans h13) h60 (fun w hw => (congrFun (hI.1 384 (by decide) (by decide) (by decide) (by decide)) w).trans (h84 w hw))) (gDec iX11_leastMeasure_ok 59 rfl) rfl rfl (by decide) rfl rfl rfl (Nat.le_of_ble_eq_true rfl) rfl (gFit_rm (by decide) (by decide)) rfl ?_
    refine go_istore_n (q := 102) (gDec iX11_leastMeasure_ok 60 rfl) rfl (by decide) rfl ?_
    refine go_iinc (v := nI (i + 1)) (q := 105) (gDec iX11_leastMeasure_ok 61 rfl) rfl (nI_1 _) (by decide) rfl ?_
    refine go_goto (t := 73) (gDec iX11_leastMeasure_ok 62 rfl) (by decide) ?_
    refine go_sub (L' := [(0, .ref (κ.2.1 + 376)), (1, .int nn), (2, .int ((inC τ nn) i a).1.2), (3, .int (nI f)), (4, .int ((inC τ nn) i a).1.1), (5, .int (nI (i + 1)))]) ⟨rfl, rfl, rfl, rfl, rfl, rfl, trivial⟩ ?_
    exact ih (i + 1) ((inC τ nn) i a) (by omega) (mTw_Q h60 hI) h

set_option maxHeartbeats 4000000 in
set_option maxRecDepth 100000 in
theorem lpX11_lm1 {κ : gK} {Z : gZ}  {τ b : gST} {nn : Int32} (hM : gMR τ (b.1 377)) (h13 : b.1 376 13 = nI (pW τ (gPl_ τ)).1) (h60 : gPl_ τ ≤ 60) (h84 : ∀ w, w < (pW τ (gPl_ τ)).1 → b.1 384 w = pWd τ w) : ∀ (m i : Nat) (a : Int32 × gST), i + m = (pW τ (gPl_ τ)).1 → mQ b a.2 → Go κ mX11_leastMeasure (gRm 9 0) Z 114 [(0, .ref (κ.2.1 + 376)), (1, .int nn), (2, .int (gLoop (ouC τ nn) i m a).1), (3, .int (nI (pW τ (gPl_ τ)).1))] [] (gLoop (ouC τ nn) i m a).2 0 → Go κ mX11_leastMeasure (gRm 9 0) Z 43 [(0, .ref (κ.2.1 + 376)), (1, .int nn), (2, .int a.1), (3, .int (nI i))] [] a.2 0 := by
  have hk := (pW_I τ (gPl_ τ)).1
  intro m
  induction m with
  | zero =>
    intro i a hi hI h
    have hiN : (pW τ (gPl_ τ)).1 = i := by omega
    rw [hiN] at h
    refine go_iload_n (q := 44) (gDec iX11_leastMeasure_ok 26 rfl) rfl rfl rfl ?_
    refine go_aload_n (q := 45) (gDec iX11_leastMeasure_ok 27 rfl) rfl rfl rfl ?_
    refine go_geti (q := 48) fX11_212 (gDec iX11_leastMeasure_ok 28 rfl) rfl (by decide) rfl ?_
    refine go_top (v' := nI (pW τ (gPl_ τ)).1) ((hI.2.1 13 (by decide)).trans h13) ?_
    refine go_icmp_ge (t := 114) (q := 51) (gDec iX11_leastMeasure_ok 29 rfl) (by decide) rfl (fun c48 => ?_) (fun c48 => False.elim (c48 (nI_le (a := (pW τ (gPl_ τ)).1) (b := i) (by omega) (by omega))))
    refine go_sub (L' := [(0, .ref (κ.2.1 + 376)), (1, .int nn), (2, .int a.1), (3, .int (nI i))]) ⟨rfl, rfl, rfl, rfl, trivial⟩ ?_
    exact h
  | succ m ih =>
    intro i a hi hI h
    refine go_iload_n (q := 44) (gDec iX11_leastMeasure_ok 26 rfl) rfl rfl rfl ?_
    refine go_aload_n (q := 45) (gDec iX11_leastMeasure_ok 27 rfl) rfl rfl rfl ?_
    refine go_geti (q := 48) fX11_212 (gDec iX11_leastMeasure_ok 28 rfl) rfl (by decide) rfl ?_
    refine go_top (v' := nI (pW τ (gPl_ τ)).1) ((hI.2.1 13 (by decide)).trans h13) ?_
    refine go_icmp_ge (t := 114) (q := 51) (gDec iX11_leastMeasure_ok 29 rfl) (by decide) rfl (fun c48 => False.elim (nI_ge (a := i) (b := (pW τ (gPl_ τ)).1) (by omega) (by omega) c48)) (fun c48 => ?_)
    refine go_aload_n (q := 52) (gDec iX11_leastMeasure_ok 30 rfl) rfl rfl rfl ?_
    refine go_getr (r' := 384) (q := 55) fX11_32 (gDec iX11_leastMeasure_ok 31 rfl) rfl (by decide) rfl ?_
    refine go_iload_n (q := 56) (gDec iX11_leastMeasure_ok 32 rfl) rfl rfl rfl ?_
    refine go_ialdN (q := 57) (gDec iX11_leastMeasure_ok 33 rfl) rfl (by decide) (by omega) (by decide) rfl ?_
    refine go_top (v' := pWd τ i) (((congrFun (hI.1 384 (by decide) (by decide) (by decide) (by decide)) _).trans (h84 _ (by omega)))) ?_
    refine go_istore (q := 59) (gDec iX11_leastMeasure_ok 34 rfl) (by decide) rfl ?_
    refine go_aload_n (q := 60) (gDec iX11_leastMeasure_ok 35 rfl) rfl rfl rfl ?_
    refine go_iload (q := 62) (gDec iX11_leastMeasure_ok 36 rfl) rfl rfl ?_
    refine go_iload_n (q := 63) (gDec iX11_leastMeasure_ok 37 rfl) rfl rfl rfl ?_
    refine go_iload_n (q := 64) (gDec iX11_leastMeasure_ok 38 rfl) rfl rfl rfl ?_
    refine go_callV (n2 := 0) (q := 67) kX11_232 (ctX11_tried (τ := τ) (by rw [hI.1 377 (by decide) (by decide) (by decide) (by decide)]; exact hM) ((hI.2.1 13 (by decide)).trans h13) h60 (fun w hw => (congrFun (hI.1 384 (by decide) (by decide) (by decide) (by decide)) w).trans (h84 w hw))) (gDec iX11_leastMeasure_ok 39 rfl) rfl rfl (by decide) rfl rfl rfl (Nat.le_of_ble_eq_true rfl) rfl (gFit_rm (by decide) (by decide)) rfl ?_
    refine go_istore_n (q := 68) (gDec iX11_leastMeasure_ok 40 rfl) rfl (by decide) rfl ?_
    refine go_iload_n (q := 69) (gDec iX11_leastMeasure_ok 41 rfl) rfl rfl rfl ?_
    refine go_iconst (v := nI 1) (q := 70) (gDec iX11_leastMeasure_ok 42 rfl) (by decide) rfl ?_
    refine go_iaddN (c := i + 1) (q := 71) (gDec iX11_leastMeasure_ok 43 rfl) rfl rfl ?_
    refine go_istore (q := 73) (gDec iX11_leastMeasure_ok 44 rfl) (by decide) rfl ?_
    refine go_sub (L' := [(0, .ref (κ.2.1 + 376)), (1, .int nn), (2, .int ((pWd τ i, pTr τ nn (pWd τ i) a.1), mTw τ (pWd τ i) a.1 a.2).1.2), (3, .int (nI i)), (4, .int ((pWd τ i, pTr τ nn (pWd τ i) a.1), mTw τ (pWd τ i) a.1 a.2).1.1), (5, .int (nI (i + 1)))]) ⟨rfl, rfl, rfl, rfl, rfl, rfl, trivial⟩ ?_
    refine lpX11_lm2 (f := i) hM h13 h60 h84 ((pW τ (gPl_ τ)).1 - (i + 1)) (i + 1) ((pWd τ i, pTr τ nn (pWd τ i) a.1), mTw τ (pWd τ i) a.1 a.2) (by omega) (mTw_Q h60 hI) ?_
    refine go_iinc (v := nI (i + 1)) (q := 111) (gDec iX11_leastMeasure_ok 63 rfl) rfl (nI_1 _) (by decide) rfl ?_
    refine go_goto (t := 43) (gDec iX11_leastMeasure_ok 64 rfl) (by decide) ?_
    refine go_sub (L' := [(0, .ref (κ.2.1 + 376)), (1, .int nn), (2, .int (ouC τ nn i a).1), (3, .int (nI (i + 1)))]) ⟨rfl, rfl, rfl, rfl, trivial⟩ ?_
    exact ih (i + 1) (ouC τ nn i a) (by omega) (ouC_Q h60 _ _ hI) h

theorem gLm_k (τ : gST) (nn : Int32) : (∀ k, k < 366 → k ≠ 363 → (gLm nn 3600 1 (gSet τ)).2.1 k = τ.1 k) ∧ (gLm nn 3600 1 (gSet τ)).2.1 363 6 = τ.1 363 6 :=
  ⟨fun k q1 q2 => ((gLm_A 3600 1 (gSet τ)).1 k (by omega) (by omega) (by omega) q2).trans ((gSet_k τ).1 k q2 (by omega) (by omega)), ((gLm_A 3600 1 (gSet τ)).2.1 6 (by decide) (by decide)).trans ((gSet_k τ).2.1 6 (by decide))⟩
set_option maxHeartbeats 4000000 in
set_option maxRecDepth 100000 in
theorem ok_leastMeasure {κ : gK} {σ τ : gST} {nn : Int32} (h : gAll τ σ) : gOK κ mX11_leastMeasure [.ref (κ.2.1 + 376), .int nn] σ (rI (aI (fLeast τ nn).1)) kAN (fLeast τ nn) := by
  have hC := h.ci
  have hM := h.mr
  have h24 := hC.dw.ng24
  have h60 := h.cb.2.2.1.pl60
  have h9 := h.pn
  have hp := fun i => h.p9 (i := i)
  have hk := (pW_I τ (gPl_ τ)).1
  by_cases h1 : 1 ≤ nn.toInt ∧ nn.toInt ≤ 60
  · have hG := gLm_g (τ := τ) (nn := nn) h60
    have hb : (gLoop (ouC τ nn) 0 (pW τ (gPl_ τ)).1 (pTr τ nn 1 (-1), mTw τ 1 (-1) (mFind τ (gPut σ 376 5 0)))).1 = (gLm nn 3600 1 (gSet τ)).1 := (ouC_1 _ _ _).trans (pBest_eq hG)
    obtain ⟨f1, f2, f3⟩ := mF_k τ (gPut σ 376 5 0)
    have hQ0 : mQ (mFind τ (gPut σ 376 5 0)) (mTw τ 1 (-1) (mFind τ (gPut σ 376 5 0))) := mTw_Q h60 ⟨fun _ _ _ _ _ => rfl, fun _ _ => rfl, rfl⟩
    have hQ : mQ (mFind τ (gPut σ 376 5 0)) (gLoop (ouC τ nn) 0 (pW τ (gPl_ τ)).1 (pTr τ nn 1 (-1), mTw τ 1 (-1) (mFind τ (gPut σ 376 5 0)))).2 := gLoop_inv (I := fun a : Int32 × gST => mQ (mFind τ (gPut σ 376 5 0)) a.2) (fun f a h => ouC_Q h60 f a h) _ _ _ hQ0
    have hs1 : ∀ v k, k ≠ 376 → k < 382 ∨ 388 ≤ k → (gPut (gLoop (ouC τ nn) 0 (pW τ (gPl_ τ)).1 (pTr τ nn 1 (-1), mTw τ 1 (-1) (mFind τ (gPut σ 376 5 0)))).2 376 5 v).1 k = σ.1 k := fun v k q1 q2 => (gPut_ne _ _ _ q1).trans ((hQ.1 k q1 (by omega) (by omega) (by omega)).trans ((f1 k q1 q2).trans (gPut_ne _ _ _ q1)))
    have hs2 : ∀ v j, j ≠ 5 → j ≠ 13 → j ≠ 17 → (gPut (gLoop (ouC τ nn) 0 (pW τ (gPl_ τ)).1 (pTr τ nn 1 (-1), mTw τ 1 (-1) (mFind τ (gPut σ 376 5 0)))).2 376 5 v).1 376 j = σ.1 376 j := fun v j q1 q2 q3 => by
      rw [gPut_at, if_neg (by omega)]
      exact (hQ.2.1 j q3).trans ((f2 j q2).trans (by rw [gPut_at, if_neg (by omega)]))
    have hs3 : ∀ v, (gPut (gLoop (ouC τ nn) 0 (pW τ (gPl_ τ)).1 (pTr τ nn 1 (-1), mTw τ 1 (-1) (mFind τ (gPut σ 376 5 0)))).2 376 5 v).2 = σ.2 := fun v => hQ.2.2.trans f3
    by_cases h2 : (gLm nn 3600 1 (gSet τ)).1 = -1
    · rw [show fLeast τ nn = (xNSE, (gLm nn 3600 1 (gSet τ)).2) from (if_pos h1).trans (if_pos h2)]
      refine gOK.sc (σ' := gPut (gLoop (ouC τ nn) 0 (pW τ (gPl_ τ)).1 (pTr τ nn 1 (-1), mTw τ 1 (-1) (mFind τ (gPut σ 376 5 0)))).2 376 5 2) h ?_ (by rw [gPut_at, if_pos ⟨rfl, rfl⟩]; exact xc_AN_N.symm) (gLm_k τ nn).1 (gLm_k τ nn).2 (hs1 _) (hs2 _) (hs3 _)
      refine ct_of (by decide +kernel) rfl (Nat.le_of_ble_eq_true rfl) rfl ?_
      refine go_aload_n (q := 1) (gDec iX11_leastMeasure_ok 0 rfl) rfl rfl rfl ?_
      refine go_iload_n (q := 2) (gDec iX11_leastMeasure_ok 1 rfl) rfl rfl rfl ?_
      refine go_i2l (q := 3) (gDec iX11_leastMeasure_ok 2 rfl) rfl ?_
      refine go_iconst (v := nI 1) (q := 4) (gDec iX11_leastMeasure_ok 3 rfl) (by decide) rfl ?_
      refine go_bipush (v := nI 60) (q := 6) (gDec iX11_leastMeasure_ok 4 rfl) (by decide) rfl ?_
      refine go_callS (n2 := 0) (q := 9) kX11_57 ctX11_in (gDec iX11_leastMeasure_ok 5 rfl) rfl rfl (Nat.le_of_ble_eq_true rfl) rfl (gFit_rm (by decide) (by decide)) rfl ?_
      refine go_top (v' := 1) (gWi_t (by (try rw [i2l_toInt]); exact h1)) ?_
      refine go_if_eq (t := 16) (q := 12) (gDec iX11_leastMeasure_ok 6 rfl) (by decide) rfl (fun c9 => False.elim (absurd c9 (by decide))) (fun c9 => ?_)
      refine go_iconst (v := nI 0) (q := 13) (gDec iX11_leastMeasure_ok 7 rfl) (by decide) rfl ?_
      refine go_goto (t := 17) (gDec iX11_leastMeasure_ok 8 rfl) (by decide) ?_
      refine go_puti (q := 20) fX11_54 gft11 (gDec iX11_leastMeasure_ok 10 rfl) rfl (by decide) rfl rfl rfl rfl ?_
      refine go_aload_n (q := 21) (gDec iX11_leastMeasure_ok 11 rfl) rfl rfl rfl ?_
      refine go_geti (q := 24) fX11_54 (gDec iX11_leastMeasure_ok 12 rfl) rfl (by decide) rfl ?_
      refine go_top (v' := nI 0) rfl ?_
      refine go_if_le (t := 29) (q := 27) (gDec iX11_leastMeasure_ok 13 rfl) (by decide) rfl (fun c24 => ?_) (fun c24 => False.elim (c24 (by decide)))
      refine go_aload_n (q := 30) (gDec iX11_leastMeasure_ok 16 rfl) rfl rfl rfl ?_
      refine go_callV (n2 := 0) (q := 33) kX11_225 (ctX11_findWords (σ := (gPut σ 376 5 0)) (τ := τ) hC hM h9 h60 hp) (gDec iX11_leastMeasure_ok 17 rfl) rfl rfl (by decide) rfl rfl rfl (Nat.le_of_ble_eq_true rfl) rfl (gFit_rm (by decide) (by decide)) rfl ?_
      refine go_aload_n (q := 34) (gDec iX11_leastMeasure_ok 18 rfl) rfl rfl rfl ?_
      refine go_iconst (v := 1) (q := 35) (gDec iX11_leastMeasure_ok 19 rfl) (by decide) rfl ?_
      refine go_iload_n (q := 36) (gDec iX11_leastMeasure_ok 20 rfl) rfl rfl rfl ?_
      refine go_iconst (v := (-1)) (q := 37) (gDec iX11_leastMeasure_ok 21 rfl) (by decide) rfl ?_
      refine go_callV (n2 := 0) (q := 40) kX11_232 (ctX11_tried (σ := (mFind τ (gPut σ 376 5 0))) (τ := τ) (by rw [(mF_k τ (gPut σ 376 5 0)).1 377 (by decide) (by decide)]; exact hM) (mFind_R τ (gPut σ 376 5 0)).1 h60 (fun w hw => ((mFind_R τ (gPut σ 376 5 0)).2.1 w hw).2)) (gDec iX11_leastMeasure_ok 22 rfl) rfl rfl (by decide) rfl rfl rfl (Nat.le_of_ble_eq_true rfl) rfl (gFit_rm (by decide) (by decide)) rfl ?_
      refine go_istore_n (q := 41) (gDec iX11_leastMeasure_ok 23 rfl) rfl (by decide) rfl ?_
      refine go_iconst (v := nI 0) (q := 42) (gDec iX11_leastMeasure_ok 24 rfl) (by decide) rfl ?_
      refine go_istore_n (q := 43) (gDec iX11_leastMeasure_ok 25 rfl) rfl (by decide) rfl ?_
      refine go_sub (L' := [(0, .ref (κ.2.1 + 376)), (1, .int nn), (2, .int (pTr τ nn 1 (-1), mTw τ 1 (-1) (mFind τ (gPut σ 376 5 0))).1), (3, .int (nI 0))]) ⟨rfl, rfl, rfl, rfl, trivial⟩ ?_
      refine lpX11_lm1 (b := (mFind τ (gPut σ 376 5 0))) (by rw [(mF_k τ (gPut σ 376 5 0)).1 377 (by decide) (by decide)]; exact hM) (mFind_R τ (gPut σ 376 5 0)).1 h60 (fun w hw => ((mFind_R τ (gPut σ 376 5 0)).2.1 w hw).2) (pW τ (gPl_ τ)).1 0 (pTr τ nn 1 (-1), mTw τ 1 (-1) (mFind τ (gPut σ 376 5 0))) (by omega) hQ0 ?_
      refine go_aload_n (q := 115) (gDec iX11_leastMeasure_ok 65 rfl) rfl rfl rfl ?_
      refine go_iload_n (q := 116) (gDec iX11_leastMeasure_ok 66 rfl) rfl rfl rfl ?_
      refine go_top (v' := -1) (hb.trans h2) ?_
      refine go_if_ge (t := 123) (q := 119) (gDec iX11_leastMeasure_ok 67 rfl) (by decide) rfl (fun c116 => False.elim (absurd c116 (by decide))) (fun c116 => ?_)
      refine go_iconst (v := nI 2) (q := 120) (gDec iX11_leastMeasure_ok 68 rfl) (by decide) rfl ?_
      refine go_goto (t := 124) (gDec iX11_leastMeasure_ok 69 rfl) (by decide) ?_
      refine go_puti (q := 127) fX11_54 gft11 (gDec iX11_leastMeasure_ok 71 rfl) rfl (by decide) rfl rfl rfl rfl ?_
      refine go_aload_n (q := 128) (gDec iX11_leastMeasure_ok 72 rfl) rfl rfl rfl ?_
      refine go_geti (q := 131) fX11_54 (gDec iX11_leastMeasure_ok 73 rfl) rfl (by decide) rfl ?_
      refine go_top (v' := nI 2) rfl ?_
      refine go_if_le (t := 138) (q := 134) (gDec iX11_leastMeasure_ok 74 rfl) (by decide) rfl (fun c131 => False.elim (absurd c131 (by decide))) (fun c131 => ?_)
      refine go_iconst (v := nI 0) (q := 135) (gDec iX11_leastMeasure_ok 75 rfl) (by decide) rfl ?_
      refine go_goto (t := 139) (gDec iX11_leastMeasure_ok 76 rfl) (by decide) ?_
      exact go_ireturn (gDec iX11_leastMeasure_ok 78 rfl) rfl rfl rfl rfl (by decide)
    · rw [show fLeast τ nn = (rI (gLm nn 3600 1 (gSet τ)).1, (gLm nn 3600 1 (gSet τ)).2) from (if_pos h1).trans (if_neg h2)]
      have hx : 0 ≤ (gLm nn 3600 1 (gSet τ)).1 := by
        rcases hG with h9 | h9
        · exact absurd h9.1 h2
        · exact i32_le.mpr (by have := h9.1; rw [show ((0 : Int32)).toInt = 0 from rfl]; omega)
      refine gOK.sc (σ' := gPut (gLoop (ouC τ nn) 0 (pW τ (gPl_ τ)).1 (pTr τ nn 1 (-1), mTw τ 1 (-1) (mFind τ (gPut σ 376 5 0)))).2 376 5 0) h ?_ (by rw [gPut_at, if_pos ⟨rfl, rfl⟩]; rfl) (gLm_k τ nn).1 (gLm_k τ nn).2 (hs1 _) (hs2 _) (hs3 _)
      refine ct_of (by decide +kernel) rfl (Nat.le_of_ble_eq_true rfl) rfl ?_
      refine go_aload_n (q := 1) (gDec iX11_leastMeasure_ok 0 rfl) rfl rfl rfl ?_
      refine go_iload_n (q := 2) (gDec iX11_leastMeasure_ok 1 rfl) rfl rfl rfl ?_
      refine go_i2l (q := 3) (gDec iX11_leastMeasure_ok 2 rfl) rfl ?_
      refine go_iconst (v := nI 1) (q := 4) (gDec iX11_leastMeasure_ok 3 rfl) (by decide) rfl ?_
      refine go_bipush (v := nI 60) (q := 6) (gDec iX11_leastMeasure_ok 4 rfl) (by decide) rfl ?_
      refine go_callS (n2 := 0) (q := 9) kX11_57 ctX11_in (gDec iX11_leastMeasure_ok 5 rfl) rfl rfl (Nat.le_of_ble_eq_true rfl) rfl (gFit_rm (by decide) (by decide)) rfl ?_
      refine go_top (v' := 1) (gWi_t (by (try rw [i2l_toInt]); exact h1)) ?_
      refine go_if_eq (t := 16) (q := 12) (gDec iX11_leastMeasure_ok 6 rfl) (by decide) rfl (fun c9 => False.elim (absurd c9 (by decide))) (fun c9 => ?_)
      refine go_iconst (v := nI 0) (q := 13) (gDec iX11_leastMeasure_ok 7 rfl) (by decide) rfl ?_
      refine go_goto (t := 17) (gDec iX11_leastMeasure_ok 8 rfl) (by decide) ?_
      refine go_puti (q := 20) fX11_54 gft11 (gDec iX11_leastMeasure_ok 10 rfl) rfl (by decide) rfl rfl rfl rfl ?_
      refine go_aload_n (q := 21) (gDec iX11_leastMeasure_ok 11 rfl) rfl rfl rfl ?_
      refine go_geti (q := 24) fX11_54 (gDec iX11_leastMeasure_ok 12 rfl) rfl (by decide) rfl ?_
      refine go_top (v' := nI 0) rfl ?_
      refine go_if_le (t := 29) (q := 27) (gDec iX11_leastMeasure_ok 13 rfl) (by decide) rfl (fun c24 => ?_) (fun c24 => False.elim (c24 (by decide)))
      refine go_aload_n (q := 30) (gDec iX11_leastMeasure_ok 16 rfl) rfl rfl rfl ?_
      refine go_callV (n2 := 0) (q := 33) kX11_225 (ctX11_findWords (σ := (gPut σ 376 5 0)) (τ := τ) hC hM h9 h60 hp) (gDec iX11_leastMeasure_ok 17 rfl) rfl rfl (by decide) rfl rfl rfl (Nat.le_of_ble_eq_true rfl) rfl (gFit_rm (by decide) (by decide)) rfl ?_
      refine go_aload_n (q := 34) (gDec iX11_leastMeasure_ok 18 rfl) rfl rfl rfl ?_
      refine go_iconst (v := 1) (q := 35) (gDec iX11_leastMeasure_ok 19 rfl) (by decide) rfl ?_
      refine go_iload_n (q := 36) (gDec iX11_leastMeasure_ok 20 rfl) rfl rfl rfl ?_
      refine go_iconst (v := (-1)) (q := 37) (gDec iX11_leastMeasure_ok 21 rfl) (by decide) rfl ?_
      refine go_callV (n2 := 0) (q := 40) kX11_232 (ctX11_tried (σ := (mFind τ (gPut σ 376 5 0))) (τ := τ) (by rw [(mF_k τ (gPut σ 376 5 0)).1 377 (by decide) (by decide)]; exact hM) (mFind_R τ (gPut σ 376 5 0)).1 h60 (fun w hw => ((mFind_R τ (gPut σ 376 5 0)).2.1 w hw).2)) (gDec iX11_leastMeasure_ok 22 rfl) rfl rfl (by decide) rfl rfl rfl (Nat.le_of_ble_eq_true rfl) rfl (gFit_rm (by decide) (by decide)) rfl ?_
      refine go_istore_n (q := 41) (gDec iX11_leastMeasure_ok 23 rfl) rfl (by decide) rfl ?_
      refine go_iconst (v := nI 0) (q := 42) (gDec iX11_leastMeasure_ok 24 rfl) (by decide) rfl ?_
      refine go_istore_n (q := 43) (gDec iX11_leastMeasure_ok 25 rfl) rfl (by decide) rfl ?_
      refine go_sub (L' := [(0, .ref (κ.2.1 + 376)), (1, .int nn), (2, .int (pTr τ nn 1 (-1), mTw τ 1 (-1) (mFind τ (gPut σ 376 5 0))).1), (3, .int (nI 0))]) ⟨rfl, rfl, rfl, rfl, trivial⟩ ?_
      refine lpX11_lm1 (b := (mFind τ (gPut σ 376 5 0))) (by rw [(mF_k τ (gPut σ 376 5 0)).1 377 (by decide) (by decide)]; exact hM) (mFind_R τ (gPut σ 376 5 0)).1 h60 (fun w hw => ((mFind_R τ (gPut σ 376 5 0)).2.1 w hw).2) (pW τ (gPl_ τ)).1 0 (pTr τ nn 1 (-1), mTw τ 1 (-1) (mFind τ (gPut σ 376 5 0))) (by omega) hQ0 ?_
      refine go_aload_n (q := 115) (gDec iX11_leastMeasure_ok 65 rfl) rfl rfl rfl ?_
      refine go_iload_n (q := 116) (gDec iX11_leastMeasure_ok 66 rfl) rfl rfl rfl ?_
      refine go_top (v' := (gLm nn 3600 1 (gSet τ)).1) (hb) ?_
      refine go_if_ge (t := 123) (q := 119) (gDec iX11_leastMeasure_ok 67 rfl) (by decide) rfl (fun c116 => ?_) (fun c116 => False.elim (c116 hx))
      refine go_iconst (v := nI 0) (q := 124) (gDec iX11_leastMeasure_ok 70 rfl) (by decide) rfl ?_
      refine go_puti (q := 127) fX11_54 gft11 (gDec iX11_leastMeasure_ok 71 rfl) rfl (by decide) rfl rfl rfl rfl ?_
      refine go_aload_n (q := 128) (gDec iX11_leastMeasure_ok 72 rfl) rfl rfl rfl ?_
      refine go_geti (q := 131) fX11_54 (gDec iX11_leastMeasure_ok 73 rfl) rfl (by decide) rfl ?_
      refine go_top (v' := nI 0) rfl ?_
      refine go_if_le (t := 138) (q := 134) (gDec iX11_leastMeasure_ok 74 rfl) (by decide) rfl (fun c131 => ?_) (fun c131 => False.elim (c131 (by decide)))
      refine go_iload_n (q := 139) (gDec iX11_leastMeasure_ok 77 rfl) rfl rfl rfl ?_
      refine go_top (v' := (gLm nn 3600 1 (gSet τ)).1) (hb) ?_
      exact go_ireturn (gDec iX11_leastMeasure_ok 78 rfl) rfl rfl rfl rfl (by decide)
  · rw [show fLeast τ nn = (xIAE, τ) from if_neg h1]
    refine gOK.rd h rfl ?_
    refine ct_of (by decide +kernel) rfl (Nat.le_of_ble_eq_true rfl) rfl ?_
    refine go_aload_n (q := 1) (gDec iX11_leastMeasure_ok 0 rfl) rfl rfl rfl ?_
    refine go_iload_n (q := 2) (gDec iX11_leastMeasure_ok 1 rfl) rfl rfl rfl ?_
    refine go_i2l (q := 3) (gDec iX11_leastMeasure_ok 2 rfl) rfl ?_
    refine go_iconst (v := nI 1) (q := 4) (gDec iX11_leastMeasure_ok 3 rfl) (by decide) rfl ?_
    refine go_bipush (v := nI 60) (q := 6) (gDec iX11_leastMeasure_ok 4 rfl) (by decide) rfl ?_
    refine go_callS (n2 := 0) (q := 9) kX11_57 ctX11_in (gDec iX11_leastMeasure_ok 5 rfl) rfl rfl (Nat.le_of_ble_eq_true rfl) rfl (gFit_rm (by decide) (by decide)) rfl ?_
    refine go_top (v' := 0) (gWi_f (by (try rw [i2l_toInt]); exact h1)) ?_
    refine go_if_eq (t := 16) (q := 12) (gDec iX11_leastMeasure_ok 6 rfl) (by decide) rfl (fun c9 => ?_) (fun c9 => False.elim (c9 rfl))
    refine go_iconst (v := nI 1) (q := 17) (gDec iX11_leastMeasure_ok 9 rfl) (by decide) rfl ?_
    refine go_puti (q := 20) fX11_54 gft11 (gDec iX11_leastMeasure_ok 10 rfl) rfl (by decide) rfl rfl rfl rfl ?_
    refine go_aload_n (q := 21) (gDec iX11_leastMeasure_ok 11 rfl) rfl rfl rfl ?_
    refine go_geti (q := 24) fX11_54 (gDec iX11_leastMeasure_ok 12 rfl) rfl (by decide) rfl ?_
    refine go_top (v' := nI 1) rfl ?_
    refine go_if_le (t := 29) (q := 27) (gDec iX11_leastMeasure_ok 13 rfl) (by decide) rfl (fun c24 => False.elim (absurd c24 (by decide))) (fun c24 => ?_)
    refine go_iconst (v := nI 0) (q := 28) (gDec iX11_leastMeasure_ok 14 rfl) (by decide) rfl ?_
    exact go_ireturn (gDec iX11_leastMeasure_ok 15 rfl) rfl rfl rfl (congrArg (gPut σ 376 5) xc_AN_A) (by decide)
