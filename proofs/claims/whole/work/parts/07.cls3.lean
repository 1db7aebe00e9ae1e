set_option maxHeartbeats 4000000 in
set_option maxRecDepth 100000 in
theorem lpX5_contourSum {κ : gK} {Z : gZ} {σ : gST} {N : Nat} (hN : N ≤ 24) (hm : σ.1 2 5 = nI N) : ∀ (m i : Nat) (a : Int32), i + m = N → Go κ mX5_contourSum (gRm 2 0) Z 26 [(0, .ref (κ.2.1 + 2)), (1, .int (gLoop (fun g a => a + σ.1 6 g) i m a)), (2, .int (nI N))] [] σ 0 → Go κ mX5_contourSum (gRm 2 0) Z 4 [(0, .ref (κ.2.1 + 2)), (1, .int a), (2, .int (nI i))] [] σ 0 := by
  intro m
  induction m with
  | zero =>
    intro i a hi h
    have hiN : N = i := by omega
    rw [hiN] at h
    refine go_iload_n (q := 5) (gDec iX5_contourSum_ok 4 rfl) rfl rfl rfl ?_
    refine go_aload_n (q := 6) (gDec iX5_contourSum_ok 5 rfl) rfl rfl rfl ?_
    refine go_geti (q := 9) fX5_32 (gDec iX5_contourSum_ok 6 rfl) rfl (by decide) rfl ?_
    refine go_icmp_ge (t := 26) (q := 12) (gDec iX5_contourSum_ok 7 rfl) (by decide) rfl (fun c9 => ?_) (fun c9 => False.elim (c9 (by rw [hm]; exact nI_le (by omega) (by omega))))
    refine go_sub (L' := [(0, .ref (κ.2.1 + 2)), (1, .int a), (2, .int (nI i))]) ⟨rfl, rfl, rfl, trivial⟩ ?_
    exact h
  | succ m ih =>
    intro i a hi h
    refine go_iload_n (q := 5) (gDec iX5_contourSum_ok 4 rfl) rfl rfl rfl ?_
    refine go_aload_n (q := 6) (gDec iX5_contourSum_ok 5 rfl) rfl rfl rfl ?_
    refine go_geti (q := 9) fX5_32 (gDec iX5_contourSum_ok 6 rfl) rfl (by decide) rfl ?_
    refine go_icmp_ge (t := 26) (q := 12) (gDec iX5_contourSum_ok 7 rfl) (by decide) rfl (fun c9 => False.elim (by rw [hm] at c9; exact nI_ge (a := i) (b := N) (by omega) (by omega) c9)) (fun c9 => ?_)
    refine go_iload_n (q := 13) (gDec iX5_contourSum_ok 8 rfl) rfl rfl rfl ?_
    refine go_aload_n (q := 14) (gDec iX5_contourSum_ok 9 rfl) rfl rfl rfl ?_
    refine go_iload_n (q := 15) (gDec iX5_contourSum_ok 10 rfl) rfl rfl rfl ?_
    refine go_callV (n2 := 0) (q := 18) kX5_55 (ctX5_contourCount (by omega)) (gDec iX5_contourSum_ok 11 rfl) rfl rfl (by decide) rfl rfl rfl (Nat.le_of_ble_eq_true rfl) rfl (gFit_rm (by decide) (by decide)) rfl ?_
    refine go_iadd (q := 19) (gDec iX5_contourSum_ok 12 rfl) rfl ?_
    refine go_istore_n (q := 20) (gDec iX5_contourSum_ok 13 rfl) rfl (by decide) rfl ?_
    refine go_iinc (v := nI (i + 1)) (q := 23) (gDec iX5_contourSum_ok 14 rfl) rfl (nI_1 i) (by decide) rfl ?_
    refine go_goto (t := 4) (gDec iX5_contourSum_ok 15 rfl) (by decide) ?_
    refine go_sub (L' := [(0, .ref (κ.2.1 + 2)), (1, .int ((fun g a => a + σ.1 6 g) i a)), (2, .int (nI (i + 1)))]) ⟨rfl, rfl, rfl, trivial⟩ ?_
    exact ih (i + 1) ((fun g a => a + σ.1 6 g) i a) (by omega) h

set_option maxHeartbeats 4000000 in
set_option maxRecDepth 100000 in
theorem ctX5_contourSum {κ : gK} {σ : gST} {N : Nat} (hN : N ≤ 24) (hm : σ.1 2 5 = nI N) : gCt κ mX5_contourSum 2 [.ref (κ.2.1 + 2)] σ (.inl (some (.int (gLoop (fun g a => a + σ.1 6 g) 0 N 0)))) σ 0 := by
  refine ct_of (by decide +kernel) rfl (Nat.le_of_ble_eq_true rfl) rfl ?_
  refine go_iconst (v := 0) (q := 1) (gDec iX5_contourSum_ok 0 rfl) (by decide) rfl ?_
  refine go_istore_n (q := 2) (gDec iX5_contourSum_ok 1 rfl) rfl (by decide) rfl ?_
  refine go_iconst (v := 0) (q := 3) (gDec iX5_contourSum_ok 2 rfl) (by decide) rfl ?_
  refine go_istore_n (q := 4) (gDec iX5_contourSum_ok 3 rfl) rfl (by decide) rfl ?_
  refine go_sub (L' := [(0, .ref (κ.2.1 + 2)), (1, .int 0), (2, .int (nI 0))]) ⟨rfl, rfl, rfl, trivial⟩ ?_
  refine lpX5_contourSum hN hm N 0 0 (by omega) ?_
  refine go_iload_n (q := 27) (gDec iX5_contourSum_ok 16 rfl) rfl rfl rfl ?_
  exact go_ireturn (gDec iX5_contourSum_ok 17 rfl) rfl rfl rfl rfl (by decide)

set_option maxHeartbeats 4000000 in
set_option maxRecDepth 100000 in
theorem lpX5_pointSum {κ : gK} {Z : gZ} {σ : gST} {N : Nat} {cm : Nat → Nat} (hN : N ≤ 24) (hm : σ.1 2 5 = nI N) (hcm : ∀ g, g < N → σ.1 6 g = nI (cm g) ∧ cm g ≤ 3) : ∀ (m i : Nat) (a : Int32), i + m = N → Go κ mX5_pointSum (gRm 4 0) Z 26 [(0, .ref (κ.2.1 + 2)), (1, .int (gLoop (fun g a => a + gLoop (fun c a => a + σ.1 8 (g * 3 + c)) 0 (cm g) 0) i m a)), (2, .int (nI N))] [] σ 0 → Go κ mX5_pointSum (gRm 4 0) Z 4 [(0, .ref (κ.2.1 + 2)), (1, .int a), (2, .int (nI i))] [] σ 0 := by
  intro m
  induction m with
  | zero =>
    intro i a hi h
    have hiN : N = i := by omega
    rw [hiN] at h
    refine go_iload_n (q := 5) (gDec iX5_pointSum_ok 4 rfl) rfl rfl rfl ?_
    refine go_aload_n (q := 6) (gDec iX5_pointSum_ok 5 rfl) rfl rfl rfl ?_
    refine go_geti (q := 9) fX5_32 (gDec iX5_pointSum_ok 6 rfl) rfl (by decide) rfl ?_
    refine go_icmp_ge (t := 26) (q := 12) (gDec iX5_pointSum_ok 7 rfl) (by decide) rfl (fun c9 => ?_) (fun c9 => False.elim (c9 (by rw [hm]; exact nI_le (by omega) (by omega))))
    refine go_sub (L' := [(0, .ref (κ.2.1 + 2)), (1, .int a), (2, .int (nI i))]) ⟨rfl, rfl, rfl, trivial⟩ ?_
    exact h
  | succ m ih =>
    intro i a hi h
    refine go_iload_n (q := 5) (gDec iX5_pointSum_ok 4 rfl) rfl rfl rfl ?_
    refine go_aload_n (q := 6) (gDec iX5_pointSum_ok 5 rfl) rfl rfl rfl ?_
    refine go_geti (q := 9) fX5_32 (gDec iX5_pointSum_ok 6 rfl) rfl (by decide) rfl ?_
    refine go_icmp_ge (t := 26) (q := 12) (gDec iX5_pointSum_ok 7 rfl) (by decide) rfl (fun c9 => False.elim (by rw [hm] at c9; exact nI_ge (a := i) (b := N) (by omega) (by omega) c9)) (fun c9 => ?_)
    refine go_iload_n (q := 13) (gDec iX5_pointSum_ok 8 rfl) rfl rfl rfl ?_
    refine go_aload_n (q := 14) (gDec iX5_pointSum_ok 9 rfl) rfl rfl rfl ?_
    refine go_iload_n (q := 15) (gDec iX5_pointSum_ok 10 rfl) rfl rfl rfl ?_
    refine go_callV (n2 := 0) (q := 18) kX5_96 (ctX5_pointCountOf (by omega) (hcm i (by omega)).2 (hcm i (by omega)).1) (gDec iX5_pointSum_ok 11 rfl) rfl rfl (by decide) rfl rfl rfl (Nat.le_of_ble_eq_true rfl) rfl (gFit_rm (by decide) (by decide)) rfl ?_
    refine go_iadd (q := 19) (gDec iX5_pointSum_ok 12 rfl) rfl ?_
    refine go_istore_n (q := 20) (gDec iX5_pointSum_ok 13 rfl) rfl (by decide) rfl ?_
    refine go_iinc (v := nI (i + 1)) (q := 23) (gDec iX5_pointSum_ok 14 rfl) rfl (nI_1 i) (by decide) rfl ?_
    refine go_goto (t := 4) (gDec iX5_pointSum_ok 15 rfl) (by decide) ?_
    refine go_sub (L' := [(0, .ref (κ.2.1 + 2)), (1, .int ((fun g a => a + gLoop (fun c a => a + σ.1 8 (g * 3 + c)) 0 (cm g) 0) i a)), (2, .int (nI (i + 1)))]) ⟨rfl, rfl, rfl, trivial⟩ ?_
    exact ih (i + 1) ((fun g a => a + gLoop (fun c a => a + σ.1 8 (g * 3 + c)) 0 (cm g) 0) i a) (by omega) h

set_option maxHeartbeats 4000000 in
set_option maxRecDepth 100000 in
theorem ctX5_pointSum {κ : gK} {σ : gST} {N : Nat} {cm : Nat → Nat} (hN : N ≤ 24) (hm : σ.1 2 5 = nI N) (hcm : ∀ g, g < N → σ.1 6 g = nI (cm g) ∧ cm g ≤ 3) : gCt κ mX5_pointSum 4 [.ref (κ.2.1 + 2)] σ (.inl (some (.int (gLoop (fun g a => a + gLoop (fun c a => a + σ.1 8 (g * 3 + c)) 0 (cm g) 0) 0 N 0)))) σ 0 := by
  refine ct_of (by decide +kernel) rfl (Nat.le_of_ble_eq_true rfl) rfl ?_
  refine go_iconst (v := 0) (q := 1) (gDec iX5_pointSum_ok 0 rfl) (by decide) rfl ?_
  refine go_istore_n (q := 2) (gDec iX5_pointSum_ok 1 rfl) rfl (by decide) rfl ?_
  refine go_iconst (v := 0) (q := 3) (gDec iX5_pointSum_ok 2 rfl) (by decide) rfl ?_
  refine go_istore_n (q := 4) (gDec iX5_pointSum_ok 3 rfl) rfl (by decide) rfl ?_
  refine go_sub (L' := [(0, .ref (κ.2.1 + 2)), (1, .int 0), (2, .int (nI 0))]) ⟨rfl, rfl, rfl, trivial⟩ ?_
  refine lpX5_pointSum hN hm hcm N 0 0 (by omega) ?_
  refine go_iload_n (q := 27) (gDec iX5_pointSum_ok 16 rfl) rfl rfl rfl ?_
  exact go_ireturn (gDec iX5_pointSum_ok 17 rfl) rfl rfl rfl rfl (by decide)

/-- the point behind p -/
def gNx (P p : Nat) : Nat := if p + 1 < P then p + 1 else 0
/-- twice the area of the P points from b on -/
def gAr (fx fy : Nat → Int32) (b P : Nat) : Int32 := gLoop (fun p a => a + (fx (b + p) * fy (b + gNx P p) - fx (b + gNx P p) * fy (b + p))) 0 P 0
theorem gNx_lt {P p : Nat} (h : p < P) : gNx P p < P := by
  unfold gNx
  split <;> omega

set_option maxHeartbeats 4000000 in
set_option maxRecDepth 100000 in
theorem lpX5_twiceArea {κ : gK} {Z : gZ} {σ : gST} {g c P : Nat} (hg : g < 24) (hc : c < 3) (hP2 : P ≤ 12) (hP : σ.1 8 (g * 3 + c) = nI P) : ∀ (m i : Nat) (a : Int32), i + m = P → Go κ mX5_twiceArea (gRm 3 0) Z 70 [(0, .ref (κ.2.1 + 2)), (1, .int (nI g)), (2, .int (nI c)), (3, .int (gLoop (fun p a => a + (σ.1 10 ((g * 3 + c) * 12 + p) * σ.1 12 ((g * 3 + c) * 12 + gNx P p) - σ.1 10 ((g * 3 + c) * 12 + gNx P p) * σ.1 12 ((g * 3 + c) * 12 + p))) i m a)), (4, .int (nI P))] [] σ 0 → Go κ mX5_twiceArea (gRm 3 0) Z 5 [(0, .ref (κ.2.1 + 2)), (1, .int (nI g)), (2, .int (nI c)), (3, .int a), (4, .int (nI i))] [] σ 0 := by
  intro m
  induction m with
  | zero =>
    intro i a hi h
    have hiN : P = i := by omega
    rw [hiN] at h
    refine go_iload (q := 7) (gDec iX5_twiceArea_ok 4 rfl) rfl rfl ?_
    refine go_aload_n (q := 8) (gDec iX5_twiceArea_ok 5 rfl) rfl rfl rfl ?_
    refine go_iload_n (q := 9) (gDec iX5_twiceArea_ok 6 rfl) rfl rfl rfl ?_
    refine go_iload_n (q := 10) (gDec iX5_twiceArea_ok 7 rfl) rfl rfl rfl ?_
    refine go_callV (n2 := 0) (q := 13) kX5_58 (ctX5_pointCount (by omega) (by omega)) (gDec iX5_twiceArea_ok 8 rfl) rfl rfl (by decide) rfl rfl rfl (Nat.le_of_ble_eq_true rfl) rfl (gFit_rm (by decide) (by decide)) rfl ?_
    refine go_icmp_ge (t := 70) (q := 16) (gDec iX5_twiceArea_ok 9 rfl) (by decide) rfl (fun c13 => ?_) (fun c13 => False.elim (c13 (by rw [hP]; exact nI_le (by omega) (by omega))))
    refine go_sub (L' := [(0, .ref (κ.2.1 + 2)), (1, .int (nI g)), (2, .int (nI c)), (3, .int a), (4, .int (nI i))]) ⟨rfl, rfl, rfl, rfl, rfl, trivial⟩ ?_
    exact h
  | succ m ih =>
    intro i a hi h
    have hnx := gNx_lt (P := P) (p := i) (by omega)
    refine go_iload (q := 7) (gDec iX5_twiceArea_ok 4 rfl) rfl rfl ?_
    refine go_aload_n (q := 8) (gDec iX5_twiceArea_ok 5 rfl) rfl rfl rfl ?_
    refine go_iload_n (q := 9) (gDec iX5_twiceArea_ok 6 rfl) rfl rfl rfl ?_
    refine go_iload_n (q := 10) (gDec iX5_twiceArea_ok 7 rfl) rfl rfl rfl ?_
    refine go_callV (n2 := 0) (q := 13) kX5_58 (ctX5_pointCount (by omega) (by omega)) (gDec iX5_twiceArea_ok 8 rfl) rfl rfl (by decide) rfl rfl rfl (Nat.le_of_ble_eq_true rfl) rfl (gFit_rm (by decide) (by decide)) rfl ?_
    refine go_icmp_ge (t := 70) (q := 16) (gDec iX5_twiceArea_ok 9 rfl) (by decide) rfl (fun c13 => False.elim (by rw [hP] at c13; exact nI_ge (a := i) (b := P) (by omega) (by omega) c13)) (fun c13 => ?_)
    refine go_aload_n (q := 17) (gDec iX5_twiceArea_ok 10 rfl) rfl rfl rfl ?_
    refine go_iload_n (q := 18) (gDec iX5_twiceArea_ok 11 rfl) rfl rfl rfl ?_
    refine go_iload_n (q := 19) (gDec iX5_twiceArea_ok 12 rfl) rfl rfl rfl ?_
    refine go_iload (q := 21) (gDec iX5_twiceArea_ok 13 rfl) rfl rfl ?_
    refine go_callV (n2 := 0) (q := 24) kX5_90 (ctX5_nextPoint (by omega) (by omega) hP (by omega) hP2) (gDec iX5_twiceArea_ok 14 rfl) rfl rfl (by decide) rfl rfl rfl (Nat.le_of_ble_eq_true rfl) rfl (gFit_rm (by decide) (by decide)) rfl ?_
    refine go_istore (q := 26) (gDec iX5_twiceArea_ok 15 rfl) (by decide) rfl ?_
    refine go_iload_n (q := 27) (gDec iX5_twiceArea_ok 16 rfl) rfl rfl rfl ?_
    refine go_aload_n (q := 28) (gDec iX5_twiceArea_ok 17 rfl) rfl rfl rfl ?_
    refine go_iload_n (q := 29) (gDec iX5_twiceArea_ok 18 rfl) rfl rfl rfl ?_
    refine go_iload_n (q := 30) (gDec iX5_twiceArea_ok 19 rfl) rfl rfl rfl ?_
    refine go_iload (q := 32) (gDec iX5_twiceArea_ok 20 rfl) rfl rfl ?_
    refine go_callV (n2 := 0) (q := 35) kX5_72 (ctX5_xOf (p := i) (by omega) (by omega) (by omega)) (gDec iX5_twiceArea_ok 21 rfl) rfl rfl (by decide) rfl rfl rfl (Nat.le_of_ble_eq_true rfl) rfl (gFit_rm (by decide) (by decide)) rfl ?_
    refine go_aload_n (q := 36) (gDec iX5_twiceArea_ok 22 rfl) rfl rfl rfl ?_
    refine go_iload_n (q := 37) (gDec iX5_twiceArea_ok 23 rfl) rfl rfl rfl ?_
    refine go_iload_n (q := 38) (gDec iX5_twiceArea_ok 24 rfl) rfl rfl rfl ?_
    refine go_iload (q := 40) (gDec iX5_twiceArea_ok 25 rfl) rfl rfl ?_
    refine go_callV (n2 := 0) (q := 43) kX5_75 (ctX5_yOf (p := gNx P i) (by omega) (by omega) (by omega)) (gDec iX5_twiceArea_ok 26 rfl) rfl rfl (by decide) rfl rfl rfl (Nat.le_of_ble_eq_true rfl) rfl (gFit_rm (by decide) (by decide)) rfl ?_
    refine go_imul (q := 44) (gDec iX5_twiceArea_ok 27 rfl) rfl ?_
    refine go_aload_n (q := 45) (gDec iX5_twiceArea_ok 28 rfl) rfl rfl rfl ?_
    refine go_iload_n (q := 46) (gDec iX5_twiceArea_ok 29 rfl) rfl rfl rfl ?_
    refine go_iload_n (q := 47) (gDec iX5_twiceArea_ok 30 rfl) rfl rfl rfl ?_
    refine go_iload (q := 49) (gDec iX5_twiceArea_ok 31 rfl) rfl rfl ?_
    refine go_callV (n2 := 0) (q := 52) kX5_72 (ctX5_xOf (p := gNx P i) (by omega) (by omega) (by omega)) (gDec iX5_twiceArea_ok 32 rfl) rfl rfl (by decide) rfl rfl rfl (Nat.le_of_ble_eq_true rfl) rfl (gFit_rm (by decide) (by decide)) rfl ?_
    refine go_aload_n (q := 53) (gDec iX5_twiceArea_ok 33 rfl) rfl rfl rfl ?_
    refine go_iload_n (q := 54) (gDec iX5_twiceArea_ok 34 rfl) rfl rfl rfl ?_
    refine go_iload_n (q := 55) (gDec iX5_twiceArea_ok 35 rfl) rfl rfl rfl ?_
    refine go_iload (q := 57) (gDec iX5_twiceArea_ok 36 rfl) rfl rfl ?_
    refine go_callV (n2 := 0) (q := 60) kX5_75 (ctX5_yOf (p := i) (by omega) (by omega) (by omega)) (gDec iX5_twiceArea_ok 37 rfl) rfl rfl (by decide) rfl rfl rfl (Nat.le_of_ble_eq_true rfl) rfl (gFit_rm (by decide) (by decide)) rfl ?_
    refine go_imul (q := 61) (gDec iX5_twiceArea_ok 38 rfl) rfl ?_
    refine go_isub (q := 62) (gDec iX5_twiceArea_ok 39 rfl) rfl ?_
    refine go_iadd (q := 63) (gDec iX5_twiceArea_ok 40 rfl) rfl ?_
    refine go_istore_n (q := 64) (gDec iX5_twiceArea_ok 41 rfl) rfl (by decide) rfl ?_
    refine go_iinc (v := nI (i + 1)) (q := 67) (gDec iX5_twiceArea_ok 42 rfl) rfl (nI_1 i) (by decide) rfl ?_
    refine go_goto (t := 5) (gDec iX5_twiceArea_ok 43 rfl) (by decide) ?_
    refine go_sub (L' := [(0, .ref (κ.2.1 + 2)), (1, .int (nI g)), (2, .int (nI c)), (3, .int ((fun p a => a + (σ.1 10 ((g * 3 + c) * 12 + p) * σ.1 12 ((g * 3 + c) * 12 + gNx P p) - σ.1 10 ((g * 3 + c) * 12 + gNx P p) * σ.1 12 ((g * 3 + c) * 12 + p))) i a)), (4, .int (nI (i + 1)))]) ⟨rfl, rfl, rfl, rfl, rfl, trivial⟩ ?_
    exact ih (i + 1) ((fun p a => a + (σ.1 10 ((g * 3 + c) * 12 + p) * σ.1 12 ((g * 3 + c) * 12 + gNx P p) - σ.1 10 ((g * 3 + c) * 12 + gNx P p) * σ.1 12 ((g * 3 + c) * 12 + p))) i a) (by omega) h

set_option maxHeartbeats 4000000 in
set_option maxRecDepth 100000 in
theorem ctX5_twiceArea {κ : gK} {σ : gST} {g c P : Nat} (hg : g < 24) (hc : c < 3) (hP2 : P ≤ 12) (hP : σ.1 8 (g * 3 + c) = nI P) : gCt κ mX5_twiceArea 3 [.ref (κ.2.1 + 2), .int (nI g), .int (nI c)] σ (.inl (some (.int (gAr (σ.1 10) (σ.1 12) ((g * 3 + c) * 12) P)))) σ 0 := by
  refine ct_of (by decide +kernel) rfl (Nat.le_of_ble_eq_true rfl) rfl ?_
  refine go_iconst (v := 0) (q := 1) (gDec iX5_twiceArea_ok 0 rfl) (by decide) rfl ?_
  refine go_istore_n (q := 2) (gDec iX5_twiceArea_ok 1 rfl) rfl (by decide) rfl ?_
  refine go_iconst (v := 0) (q := 3) (gDec iX5_twiceArea_ok 2 rfl) (by decide) rfl ?_
  refine go_istore (q := 5) (gDec iX5_twiceArea_ok 3 rfl) (by decide) rfl ?_
  refine go_sub (L' := [(0, .ref (κ.2.1 + 2)), (1, .int (nI g)), (2, .int (nI c)), (3, .int 0), (4, .int (nI 0))]) ⟨rfl, rfl, rfl, rfl, rfl, trivial⟩ ?_
  refine lpX5_twiceArea hg hc hP2 hP P 0 0 (by omega) ?_
  refine go_iload_n (q := 71) (gDec iX5_twiceArea_ok 44 rfl) rfl rfl rfl ?_
  exact go_ireturn (gDec iX5_twiceArea_ok 45 rfl) rfl rfl rfl rfl (by decide)

set_option maxHeartbeats 4000000 in
set_option maxRecDepth 100000 in
theorem lpX5_twiceAreaOf {κ : gK} {Z : gZ} {σ : gST} {g N : Nat} {pm : Nat → Nat} (hg : g < 24) (hN : N ≤ 3) (hm : σ.1 6 g = nI N) (hpm : ∀ c, c < N → σ.1 8 (g * 3 + c) = nI (pm c) ∧ pm c ≤ 12) : ∀ (m i : Nat) (a : Int32), i + m = N → Go κ mX5_twiceAreaOf (gRm 4 0) Z 28 [(0, .ref (κ.2.1 + 2)), (1, .int (nI g)), (2, .int (gLoop (fun c a => a + gAr (σ.1 10) (σ.1 12) ((g * 3 + c) * 12) (pm c)) i m a)), (3, .int (nI N))] [] σ 0 → Go κ mX5_twiceAreaOf (gRm 4 0) Z 4 [(0, .ref (κ.2.1 + 2)), (1, .int (nI g)), (2, .int a), (3, .int (nI i))] [] σ 0 := by
  intro m
  induction m with
  | zero =>
    intro i a hi h
    have hiN : N = i := by omega
    rw [hiN] at h
    refine go_iload_n (q := 5) (gDec iX5_twiceAreaOf_ok 4 rfl) rfl rfl rfl ?_
    refine go_aload_n (q := 6) (gDec iX5_twiceAreaOf_ok 5 rfl) rfl rfl rfl ?_
    refine go_iload_n (q := 7) (gDec iX5_twiceAreaOf_ok 6 rfl) rfl rfl rfl ?_
    refine go_callV (n2 := 0) (q := 10) kX5_55 (ctX5_contourCount (by omega)) (gDec iX5_twiceAreaOf_ok 7 rfl) rfl rfl (by decide) rfl rfl rfl (Nat.le_of_ble_eq_true rfl) rfl (gFit_rm (by decide) (by decide)) rfl ?_
    refine go_icmp_ge (t := 28) (q := 13) (gDec iX5_twiceAreaOf_ok 8 rfl) (by decide) rfl (fun c10 => ?_) (fun c10 => False.elim (c10 (by rw [hm]; exact nI_le (by omega) (by omega))))
    refine go_sub (L' := [(0, .ref (κ.2.1 + 2)), (1, .int (nI g)), (2, .int a), (3, .int (nI i))]) ⟨rfl, rfl, rfl, rfl, trivial⟩ ?_
    exact h
  | succ m ih =>
    intro i a hi h
    refine go_iload_n (q := 5) (gDec iX5_twiceAreaOf_ok 4 rfl) rfl rfl rfl ?_
    refine go_aload_n (q := 6) (gDec iX5_twiceAreaOf_ok 5 rfl) rfl rfl rfl ?_
    refine go_iload_n (q := 7) (gDec iX5_twiceAreaOf_ok 6 rfl) rfl rfl rfl ?_
    refine go_callV (n2 := 0) (q := 10) kX5_55 (ctX5_contourCount (by omega)) (gDec iX5_twiceAreaOf_ok 7 rfl) rfl rfl (by decide) rfl rfl rfl (Nat.le_of_ble_eq_true rfl) rfl (gFit_rm (by decide) (by decide)) rfl ?_
    refine go_icmp_ge (t := 28) (q := 13) (gDec iX5_twiceAreaOf_ok 8 rfl) (by decide) rfl (fun c10 => False.elim (by rw [hm] at c10; exact nI_ge (a := i) (b := N) (by omega) (by omega) c10)) (fun c10 => ?_)
    refine go_iload_n (q := 14) (gDec iX5_twiceAreaOf_ok 9 rfl) rfl rfl rfl ?_
    refine go_aload_n (q := 15) (gDec iX5_twiceAreaOf_ok 10 rfl) rfl rfl rfl ?_
    refine go_iload_n (q := 16) (gDec iX5_twiceAreaOf_ok 11 rfl) rfl rfl rfl ?_
    refine go_iload_n (q := 17) (gDec iX5_twiceAreaOf_ok 12 rfl) rfl rfl rfl ?_
    refine go_callV (n2 := 0) (q := 20) kX5_93 (ctX5_twiceArea (by omega) (by omega) (hpm i (by omega)).2 (hpm i (by omega)).1) (gDec iX5_twiceAreaOf_ok 13 rfl) rfl rfl (by decide) rfl rfl rfl (Nat.le_of_ble_eq_true rfl) rfl (gFit_rm (by decide) (by decide)) rfl ?_
    refine go_iadd (q := 21) (gDec iX5_twiceAreaOf_ok 14 rfl) rfl ?_
    refine go_istore_n (q := 22) (gDec iX5_twiceAreaOf_ok 15 rfl) rfl (by decide) rfl ?_
    refine go_iinc (v := nI (i + 1)) (q := 25) (gDec iX5_twiceAreaOf_ok 16 rfl) rfl (nI_1 i) (by decide) rfl ?_
    refine go_goto (t := 4) (gDec iX5_twiceAreaOf_ok 17 rfl) (by decide) ?_
    refine go_sub (L' := [(0, .ref (κ.2.1 + 2)), (1, .int (nI g)), (2, .int ((fun c a => a + gAr (σ.1 10) (σ.1 12) ((g * 3 + c) * 12) (pm c)) i a)), (3, .int (nI (i + 1)))]) ⟨rfl, rfl, rfl, rfl, trivial⟩ ?_
    exact ih (i + 1) ((fun c a => a + gAr (σ.1 10) (σ.1 12) ((g * 3 + c) * 12) (pm c)) i a) (by omega) h

set_option maxHeartbeats 4000000 in
set_option maxRecDepth 100000 in
theorem ctX5_twiceAreaOf {κ : gK} {σ : gST} {g N : Nat} {pm : Nat → Nat} (hg : g < 24) (hN : N ≤ 3) (hm : σ.1 6 g = nI N) (hpm : ∀ c, c < N → σ.1 8 (g * 3 + c) = nI (pm c) ∧ pm c ≤ 12) : gCt κ mX5_twiceAreaOf 4 [.ref (κ.2.1 + 2), .int (nI g)] σ (.inl (some (.int (gLoop (fun c a => a + gAr (σ.1 10) (σ.1 12) ((g * 3 + c) * 12) (pm c)) 0 N 0)))) σ 0 := by
  refine ct_of (by decide +kernel) rfl (Nat.le_of_ble_eq_true rfl) rfl ?_
  refine go_iconst (v := 0) (q := 1) (gDec iX5_twiceAreaOf_ok 0 rfl) (by decide) rfl ?_
  refine go_istore_n (q := 2) (gDec iX5_twiceAreaOf_ok 1 rfl) rfl (by decide) rfl ?_
  refine go_iconst (v := 0) (q := 3) (gDec iX5_twiceAreaOf_ok 2 rfl) (by decide) rfl ?_
  refine go_istore_n (q := 4) (gDec iX5_twiceAreaOf_ok 3 rfl) rfl (by decide) rfl ?_
  refine go_sub (L' := [(0, .ref (κ.2.1 + 2)), (1, .int (nI g)), (2, .int 0), (3, .int (nI 0))]) ⟨rfl, rfl, rfl, rfl, trivial⟩ ?_
  refine lpX5_twiceAreaOf hg hN hm hpm N 0 0 (by omega) ?_
  refine go_iload_n (q := 29) (gDec iX5_twiceAreaOf_ok 18 rfl) rfl rfl rfl ?_
  exact go_ireturn (gDec iX5_twiceAreaOf_ok 19 rfl) rfl rfl rfl rfl (by decide)

def gMxx (g : Bool) (a v : Int32) : Int32 := if g then (if a < v then v else a) else (if v < a then v else a)
/-- the least or greatest of a glyph's coordinates -/
def gEx (b : Bool) (f : Nat → Int32) (pm : Nat → Nat) (g N : Nat) : Int32 :=
  gLoop (fun c a => gLoop (fun p a => gMxx b a (f ((g * 3 + c) * 12 + p))) 0 (pm c) a) 0 N (if N = 0 then 0 else f ((g * 3 + 0) * 12 + 0))

set_option maxHeartbeats 4000000 in
set_option maxRecDepth 100000 in
theorem lpX5_extreme2g {κ : gK} {Z : gZ} {σ : gST} {r x g c N P : Nat} (hs : gFd r 7 0 = some (some x)) (ha : gSh x = .inr (0, 864)) (hr : r < gN) (har : x < gN) (hg : g < 24) (hc : c < 3) (hP2 : P ≤ 12) (hP : σ.1 8 (g * 3 + c) = nI P) : ∀ (m i : Nat) (a : Int32), i + m = P → Go κ mX5_extreme (gRm 3 0) Z 95 [(0, .ref (κ.2.1 + 2)), (1, .int (nI g)), (2, .ref (κ.2.1 + r)), (3, .int 1), (4, .int (gLoop (fun p a => gMxx true a (σ.1 x ((g * 3 + c) * 12 + p))) i m a)), (5, .int (nI c)), (6, .int (nI P))] [] σ 0 → Go κ mX5_extreme (gRm 3 0) Z 40 [(0, .ref (κ.2.1 + 2)), (1, .int (nI g)), (2, .ref (κ.2.1 + r)), (3, .int 1), (4, .int a), (5, .int (nI c)), (6, .int (nI i))] [] σ 0 := by
  intro m
  induction m with
  | zero =>
    intro i a hi h
    have hiN : P = i := by omega
    rw [hiN] at h
    refine go_iload (q := 42) (gDec iX5_extreme_ok 22 rfl) rfl rfl ?_
    refine go_aload_n (q := 43) (gDec iX5_extreme_ok 23 rfl) rfl rfl rfl ?_
    refine go_iload_n (q := 44) (gDec iX5_extreme_ok 24 rfl) rfl rfl rfl ?_
    refine go_iload (q := 46) (gDec iX5_extreme_ok 25 rfl) rfl rfl ?_
    refine go_callV (n2 := 0) (q := 49) kX5_58 (ctX5_pointCount (by omega) (by omega)) (gDec iX5_extreme_ok 26 rfl) rfl rfl (by decide) rfl rfl rfl (Nat.le_of_ble_eq_true rfl) rfl (gFit_rm (by decide) (by decide)) rfl ?_
    refine go_icmp_ge (t := 95) (q := 52) (gDec iX5_extreme_ok 27 rfl) (by decide) rfl (fun c49 => ?_) (fun c49 => False.elim (c49 (by rw [hP]; exact nI_le (by omega) (by omega))))
    refine go_sub (L' := [(0, .ref (κ.2.1 + 2)), (1, .int (nI g)), (2, .ref (κ.2.1 + r)), (3, .int 1), (4, .int a), (5, .int (nI c)), (6, .int (nI i))]) ⟨rfl, rfl, rfl, rfl, rfl, rfl, rfl, trivial⟩ ?_
    exact h
  | succ m ih =>
    intro i a hi h
    obtain ⟨fs, hfs, -⟩ := gFd_of hs
    refine go_iload (q := 42) (gDec iX5_extreme_ok 22 rfl) rfl rfl ?_
    refine go_aload_n (q := 43) (gDec iX5_extreme_ok 23 rfl) rfl rfl rfl ?_
    refine go_iload_n (q := 44) (gDec iX5_extreme_ok 24 rfl) rfl rfl rfl ?_
    refine go_iload (q := 46) (gDec iX5_extreme_ok 25 rfl) rfl rfl ?_
    refine go_callV (n2 := 0) (q := 49) kX5_58 (ctX5_pointCount (by omega) (by omega)) (gDec iX5_extreme_ok 26 rfl) rfl rfl (by decide) rfl rfl rfl (Nat.le_of_ble_eq_true rfl) rfl (gFit_rm (by decide) (by decide)) rfl ?_
    refine go_icmp_ge (t := 95) (q := 52) (gDec iX5_extreme_ok 27 rfl) (by decide) rfl (fun c49 => False.elim (by rw [hP] at c49; exact nI_ge (a := i) (b := P) (by omega) (by omega) c49)) (fun c49 => ?_)
    refine go_aload_n (q := 53) (gDec iX5_extreme_ok 28 rfl) rfl rfl rfl ?_
    refine go_iload_n (q := 54) (gDec iX5_extreme_ok 29 rfl) rfl rfl rfl ?_
    refine go_iload (q := 56) (gDec iX5_extreme_ok 30 rfl) rfl rfl ?_
    refine go_iload (q := 58) (gDec iX5_extreme_ok 31 rfl) rfl rfl ?_
    refine go_callS (n2 := 0) (q := 61) kX5_51 ctX5_pointIndex (gDec iX5_extreme_ok 32 rfl) rfl rfl (Nat.le_of_ble_eq_true rfl) rfl (gFit_rm (by decide) (by decide)) rfl ?_
    refine go_callV (n2 := 0) (q := 64) kX5_40 (ctX7_get hs ha hr har (by omega) (by decide)) (gDec iX5_extreme_ok 33 rfl) rfl hfs hr rfl rfl rfl (Nat.le_of_ble_eq_true rfl) rfl (gFit_rm (by decide) (by decide)) rfl ?_
    refine go_istore (q := 66) (gDec iX5_extreme_ok 34 rfl) (by decide) rfl ?_
    refine go_iload_n (q := 67) (gDec iX5_extreme_ok 35 rfl) rfl rfl rfl ?_
    refine go_if_eq (t := 80) (q := 70) (gDec iX5_extreme_ok 36 rfl) (by decide) rfl (fun c67 => False.elim (absurd c67 (by decide))) (fun c67 => ?_)
    refine go_iload (q := 72) (gDec iX5_extreme_ok 37 rfl) rfl rfl ?_
    refine go_iload (q := 74) (gDec iX5_extreme_ok 38 rfl) rfl rfl ?_
    refine go_max (q := 77) kX5_82 (gDec iX5_extreme_ok 39 rfl) (Nat.le_of_ble_eq_true rfl) (gFit_rm (by decide) (by decide)) rfl ?_
    refine go_goto (t := 87) (gDec iX5_extreme_ok 40 rfl) (by decide) ?_
    refine go_istore (q := 89) (gDec iX5_extreme_ok 44 rfl) (by decide) rfl ?_
    refine go_iinc (v := nI (i + 1)) (q := 92) (gDec iX5_extreme_ok 45 rfl) rfl (nI_1 i) (by decide) rfl ?_
    refine go_goto (t := 40) (gDec iX5_extreme_ok 46 rfl) (by decide) ?_
    refine go_sub (L' := [(0, .ref (κ.2.1 + 2)), (1, .int (nI g)), (2, .ref (κ.2.1 + r)), (3, .int 1), (4, .int ((fun p a => gMxx true a (σ.1 x ((g * 3 + c) * 12 + p))) i a)), (5, .int (nI c)), (6, .int (nI (i + 1)))]) ⟨rfl, rfl, rfl, rfl, rfl, rfl, rfl, trivial⟩ ?_
    exact ih (i + 1) ((fun p a => gMxx true a (σ.1 x ((g * 3 + c) * 12 + p))) i a) (by omega) h

set_option maxHeartbeats 4000000 in
set_option maxRecDepth 100000 in
theorem lpX5_extreme1g {κ : gK} {Z : gZ} {σ : gST} {r x g N : Nat} {pm : Nat → Nat} (hs : gFd r 7 0 = some (some x)) (ha : gSh x = .inr (0, 864)) (hr : r < gN) (har : x < gN) (hg : g < 24) (hN : N ≤ 3) (hm : σ.1 6 g = nI N) (hpm : ∀ c, c < N → σ.1 8 (g * 3 + c) = nI (pm c) ∧ pm c ≤ 12) : ∀ (m i : Nat) (a : Int32), i + m = N → Go κ mX5_extreme (gRm 3 0) Z 101 [(0, .ref (κ.2.1 + 2)), (1, .int (nI g)), (2, .ref (κ.2.1 + r)), (3, .int 1), (4, .int (gLoop (fun c a => gLoop (fun p a => gMxx true a (σ.1 x ((g * 3 + c) * 12 + p))) 0 (pm c) a) i m a)), (5, .int (nI N))] [] σ 0 → Go κ mX5_extreme (gRm 3 0) Z 27 [(0, .ref (κ.2.1 + 2)), (1, .int (nI g)), (2, .ref (κ.2.1 + r)), (3, .int 1), (4, .int a), (5, .int (nI i))] [] σ 0 := by
  intro m
  induction m with
  | zero =>
    intro i a hi h
    have hiN : N = i := by omega
    rw [hiN] at h
    refine go_iload (q := 29) (gDec iX5_extreme_ok 15 rfl) rfl rfl ?_
    refine go_aload_n (q := 30) (gDec iX5_extreme_ok 16 rfl) rfl rfl rfl ?_
    refine go_iload_n (q := 31) (gDec iX5_extreme_ok 17 rfl) rfl rfl rfl ?_
    refine go_callV (n2 := 0) (q := 34) kX5_55 (ctX5_contourCount (by omega)) (gDec iX5_extreme_ok 18 rfl) rfl rfl (by decide) rfl rfl rfl (Nat.le_of_ble_eq_true rfl) rfl (gFit_rm (by decide) (by decide)) rfl ?_
    refine go_icmp_ge (t := 101) (q := 37) (gDec iX5_extreme_ok 19 rfl) (by decide) rfl (fun c34 => ?_) (fun c34 => False.elim (c34 (by rw [hm]; exact nI_le (by omega) (by omega))))
    refine go_sub (L' := [(0, .ref (κ.2.1 + 2)), (1, .int (nI g)), (2, .ref (κ.2.1 + r)), (3, .int 1), (4, .int a), (5, .int (nI i))]) ⟨rfl, rfl, rfl, rfl, rfl, rfl, trivial⟩ ?_
    exact h
  | succ m ih =>
    intro i a hi h
    refine go_iload (q := 29) (gDec iX5_extreme_ok 15 rfl) rfl rfl ?_
    refine go_aload_n (q := 30) (gDec iX5_extreme_ok 16 rfl) rfl rfl rfl ?_
    refine go_iload_n (q := 31) (gDec iX5_extreme_ok 17 rfl) rfl rfl rfl ?_
    refine go_callV (n2 := 0) (q := 34) kX5_55 (ctX5_contourCount (by omega)) (gDec iX5_extreme_ok 18 rfl) rfl rfl (by decide) rfl rfl rfl (Nat.le_of_ble_eq_true rfl) rfl (gFit_rm (by decide) (by decide)) rfl ?_
    refine go_icmp_ge (t := 101) (q := 37) (gDec iX5_extreme_ok 19 rfl) (by decide) rfl (fun c34 => False.elim (by rw [hm] at c34; exact nI_ge (a := i) (b := N) (by omega) (by omega) c34)) (fun c34 => ?_)
    refine go_iconst (v := 0) (q := 38) (gDec iX5_extreme_ok 20 rfl) (by decide) rfl ?_
    refine go_istore (q := 40) (gDec iX5_extreme_ok 21 rfl) (by decide) rfl ?_
    refine go_sub (L' := [(0, .ref (κ.2.1 + 2)), (1, .int (nI g)), (2, .ref (κ.2.1 + r)), (3, .int 1), (4, .int a), (5, .int (nI i)), (6, .int (nI 0))]) ⟨rfl, rfl, rfl, rfl, rfl, rfl, rfl, trivial⟩ ?_
    refine lpX5_extreme2g (N := N) hs ha hr har hg (by omega) (hpm i (by omega)).2 (hpm i (by omega)).1 (pm i) 0 a (by omega) ?_
    refine go_iinc (v := nI (i + 1)) (q := 98) (gDec iX5_extreme_ok 47 rfl) rfl (nI_1 i) (by decide) rfl ?_
    refine go_goto (t := 27) (gDec iX5_extreme_ok 48 rfl) (by decide) ?_
    refine go_sub (L' := [(0, .ref (κ.2.1 + 2)), (1, .int (nI g)), (2, .ref (κ.2.1 + r)), (3, .int 1), (4, .int ((fun c a => gLoop (fun p a => gMxx true a (σ.1 x ((g * 3 + c) * 12 + p))) 0 (pm c) a) i a)), (5, .int (nI (i + 1)))]) ⟨rfl, rfl, rfl, rfl, rfl, rfl, trivial⟩ ?_
    exact ih (i + 1) ((fun c a => gLoop (fun p a => gMxx true a (σ.1 x ((g * 3 + c) * 12 + p))) 0 (pm c) a) i a) (by omega) h

set_option maxHeartbeats 4000000 in
set_option maxRecDepth 100000 in
theorem ctX5_extremeg {κ : gK} {σ : gST} {r x g N : Nat} {pm : Nat → Nat} (hs : gFd r 7 0 = some (some x)) (ha : gSh x = .inr (0, 864)) (hr : r < gN) (har : x < gN) (hg : g < 24) (hN : N ≤ 3) (hm : σ.1 6 g = nI N) (hpm : ∀ c, c < N → σ.1 8 (g * 3 + c) = nI (pm c) ∧ pm c ≤ 12) : gCt κ mX5_extreme 3 [.ref (κ.2.1 + 2), .int (nI g), .ref (κ.2.1 + r), .int 1] σ (.inl (some (.int (gEx true (σ.1 x) pm g N)))) σ 0 := by
  obtain ⟨fs, hfs, -⟩ := gFd_of hs
  refine ct_of (by decide +kernel) rfl (Nat.le_of_ble_eq_true rfl) rfl ?_
  refine go_aload_n (q := 1) (gDec iX5_extreme_ok 0 rfl) rfl rfl rfl ?_
  refine go_iload_n (q := 2) (gDec iX5_extreme_ok 1 rfl) rfl rfl rfl ?_
  refine go_callV (n2 := 0) (q := 5) kX5_55 (ctX5_contourCount (by omega)) (gDec iX5_extreme_ok 2 rfl) rfl rfl (by decide) rfl rfl rfl (Nat.le_of_ble_eq_true rfl) rfl (gFit_rm (by decide) (by decide)) rfl ?_
  rw [hm]
  refine go_if_ne (t := 12) (q := 8) (gDec iX5_extreme_ok 3 rfl) (by decide) rfl (fun c5 => ?_) (fun c5 => ?_)
  · refine go_aload_n (q := 13) (gDec iX5_extreme_ok 6 rfl) rfl rfl rfl ?_
    refine go_iload_n (q := 14) (gDec iX5_extreme_ok 7 rfl) rfl rfl rfl ?_
    refine go_iconst (v := 0) (q := 15) (gDec iX5_extreme_ok 8 rfl) (by decide) rfl ?_
    refine go_iconst (v := 0) (q := 16) (gDec iX5_extreme_ok 9 rfl) (by decide) rfl ?_
    refine go_callS (n2 := 0) (q := 19) kX5_51 (ctX5_pointIndex (c := 0) (p := 0)) (gDec iX5_extreme_ok 10 rfl) rfl rfl (Nat.le_of_ble_eq_true rfl) rfl (gFit_rm (by decide) (by decide)) rfl ?_
    refine go_callV (n2 := 0) (q := 22) kX5_40 (ctX7_get hs ha hr har (by omega) (by decide)) (gDec iX5_extreme_ok 11 rfl) rfl hfs hr rfl rfl rfl (Nat.le_of_ble_eq_true rfl) rfl (gFit_rm (by decide) (by decide)) rfl ?_
    refine go_st (st' := [.int (if N = 0 then 0 else σ.1 x ((g * 3 + 0) * 12 + 0))]) ?_ ?_
    · first | (rw [if_pos (by rcases Nat.eq_zero_or_pos N with h | h; exact h; exact absurd c5 (nI_ne0 h (by omega)))]; done) | (rw [if_neg (fun h => c5 (by rw [h]; rfl))]; rfl) | (rw [if_pos ((nI_eq (b := 0) (by omega) (by decide)).mp c5)]; rfl)
    · refine go_istore (q := 24) (gDec iX5_extreme_ok 12 rfl) (by decide) rfl ?_
      refine go_iconst (v := 0) (q := 25) (gDec iX5_extreme_ok 13 rfl) (by decide) rfl ?_
      refine go_istore (q := 27) (gDec iX5_extreme_ok 14 rfl) (by decide) rfl ?_
      refine go_sub (L' := [(0, .ref (κ.2.1 + 2)), (1, .int (nI g)), (2, .ref (κ.2.1 + r)), (3, .int 1), (4, .int (if N = 0 then 0 else σ.1 x ((g * 3 + 0) * 12 + 0))), (5, .int (nI 0))]) ⟨rfl, rfl, rfl, rfl, rfl, rfl, trivial⟩ ?_
      refine lpX5_extreme1g hs ha hr har hg hN hm hpm N 0 _ (by omega) ?_
      refine go_iload (q := 103) (gDec iX5_extreme_ok 49 rfl) rfl rfl ?_
      exact go_ireturn (gDec iX5_extreme_ok 50 rfl) rfl rfl rfl rfl (by decide)
  · refine go_iconst (v := 0) (q := 9) (gDec iX5_extreme_ok 4 rfl) (by decide) rfl ?_
    refine go_goto (t := 22) (gDec iX5_extreme_ok 5 rfl) (by decide) ?_
    refine go_st (st' := [.int (if N = 0 then 0 else σ.1 x ((g * 3 + 0) * 12 + 0))]) ?_ ?_
    · first | (rw [if_pos (by rcases Nat.eq_zero_or_pos N with h | h; exact h; exact absurd c5 (nI_ne0 h (by omega)))]; done) | (rw [if_neg (fun h => c5 (by rw [h]; rfl))]; rfl) | (rw [if_pos ((nI_eq (b := 0) (by omega) (by decide)).mp c5)]; rfl)
    · refine go_istore (q := 24) (gDec iX5_extreme_ok 12 rfl) (by decide) rfl ?_
      refine go_iconst (v := 0) (q := 25) (gDec iX5_extreme_ok 13 rfl) (by decide) rfl ?_
      refine go_istore (q := 27) (gDec iX5_extreme_ok 14 rfl) (by decide) rfl ?_
      refine go_sub (L' := [(0, .ref (κ.2.1 + 2)), (1, .int (nI g)), (2, .ref (κ.2.1 + r)), (3, .int 1), (4, .int (if N = 0 then 0 else σ.1 x ((g * 3 + 0) * 12 + 0))), (5, .int (nI 0))]) ⟨rfl, rfl, rfl, rfl, rfl, rfl, trivial⟩ ?_
      refine lpX5_extreme1g hs ha hr har hg hN hm hpm N 0 _ (by omega) ?_
      refine go_iload (q := 103) (gDec iX5_extreme_ok 49 rfl) rfl rfl ?_
      exact go_ireturn (gDec iX5_extreme_ok 50 rfl) rfl rfl rfl rfl (by decide)

set_option maxHeartbeats 4000000 in
set_option maxRecDepth 100000 in
theorem lpX5_extreme2l {κ : gK} {Z : gZ} {σ : gST} {r x g c N P : Nat} (hs : gFd r 7 0 = some (some x)) (ha : gSh x = .inr (0, 864)) (hr : r < gN) (har : x < gN) (hg : g < 24) (hc : c < 3) (hP2 : P ≤ 12) (hP : σ.1 8 (g * 3 + c) = nI P) : ∀ (m i : Nat) (a : Int32), i + m = P → Go κ mX5_extreme (gRm 3 0) Z 95 [(0, .ref (κ.2.1 + 2)), (1, .int (nI g)), (2, .ref (κ.2.1 + r)), (3, .int 0), (4, .int (gLoop (fun p a => gMxx false a (σ.1 x ((g * 3 + c) * 12 + p))) i m a)), (5, .int (nI c)), (6, .int (nI P))] [] σ 0 → Go κ mX5_extreme (gRm 3 0) Z 40 [(0, .ref (κ.2.1 + 2)), (1, .int (nI g)), (2, .ref (κ.2.1 + r)), (3, .int 0), (4, .int a), (5, .int (nI c)), (6, .int (nI i))] [] σ 0 := by
  intro m
  induction m with
  | zero =>
    intro i a hi h
    have hiN : P = i := by omega
    rw [hiN] at h
    refine go_iload (q := 42) (gDec iX5_extreme_ok 22 rfl) rfl rfl ?_
    refine go_aload_n (q := 43) (gDec iX5_extreme_ok 23 rfl) rfl rfl rfl ?_
    refine go_iload_n (q := 44) (gDec iX5_extreme_ok 24 rfl) rfl rfl rfl ?_
    refine go_iload (q := 46) (gDec iX5_extreme_ok 25 rfl) rfl rfl ?_
    refine go_callV (n2 := 0) (q := 49) kX5_58 (ctX5_pointCount (by omega) (by omega)) (gDec iX5_extreme_ok 26 rfl) rfl rfl (by decide) rfl rfl rfl (Nat.le_of_ble_eq_true rfl) rfl (gFit_rm (by decide) (by decide)) rfl ?_
    refine go_icmp_ge (t := 95) (q := 52) (gDec iX5_extreme_ok 27 rfl) (by decide) rfl (fun c49 => ?_) (fun c49 => False.elim (c49 (by rw [hP]; exact nI_le (by omega) (by omega))))
    refine go_sub (L' := [(0, .ref (κ.2.1 + 2)), (1, .int (nI g)), (2, .ref (κ.2.1 + r)), (3, .int 0), (4, .int a), (5, .int (nI c)), (6, .int (nI i))]) ⟨rfl, rfl, rfl, rfl, rfl, rfl, rfl, trivial⟩ ?_
    exact h
  | succ m ih =>
    intro i a hi h
    obtain ⟨fs, hfs, -⟩ := gFd_of hs
    refine go_iload (q := 42) (gDec iX5_extreme_ok 22 rfl) rfl rfl ?_
    refine go_aload_n (q := 43) (gDec iX5_extreme_ok 23 rfl) rfl rfl rfl ?_
    refine go_iload_n (q := 44) (gDec iX5_extreme_ok 24 rfl) rfl rfl rfl ?_
    refine go_iload (q := 46) (gDec iX5_extreme_ok 25 rfl) rfl rfl ?_
    refine go_callV (n2 := 0) (q := 49) kX5_58 (ctX5_pointCount (by omega) (by omega)) (gDec iX5_extreme_ok 26 rfl) rfl rfl (by decide) rfl rfl rfl (Nat.le_of_ble_eq_true rfl) rfl (gFit_rm (by decide) (by decide)) rfl ?_
    refine go_icmp_ge (t := 95) (q := 52) (gDec iX5_extreme_ok 27 rfl) (by decide) rfl (fun c49 => False.elim (by rw [hP] at c49; exact nI_ge (a := i) (b := P) (by omega) (by omega) c49)) (fun c49 => ?_)
    refine go_aload_n (q := 53) (gDec iX5_extreme_ok 28 rfl) rfl rfl rfl ?_
    refine go_iload_n (q := 54) (gDec iX5_extreme_ok 29 rfl) rfl rfl rfl ?_
    refine go_iload (q := 56) (gDec iX5_extreme_ok 30 rfl) rfl rfl ?_
    refine go_iload (q := 58) (gDec iX5_extreme_ok 31 rfl) rfl rfl ?_
    refine go_callS (n2 := 0) (q := 61) kX5_51 ctX5_pointIndex (gDec iX5_extreme_ok 32 rfl) rfl rfl (Nat.le_of_ble_eq_true rfl) rfl (gFit_rm (by decide) (by decide)) rfl ?_
    refine go_callV (n2 := 0) (q := 64) kX5_40 (ctX7_get hs ha hr har (by omega) (by decide)) (gDec iX5_extreme_ok 33 rfl) rfl hfs hr rfl rfl rfl (Nat.le_of_ble_eq_true rfl) rfl (gFit_rm (by decide) (by decide)) rfl ?_
    refine go_istore (q := 66) (gDec iX5_extreme_ok 34 rfl) (by decide) rfl ?_
    refine go_iload_n (q := 67) (gDec iX5_extreme_ok 35 rfl) rfl rfl rfl ?_
    refine go_if_eq (t := 80) (q := 70) (gDec iX5_extreme_ok 36 rfl) (by decide) rfl (fun c67 => ?_) (fun c67 => False.elim (c67 rfl))
    refine go_iload (q := 82) (gDec iX5_extreme_ok 41 rfl) rfl rfl ?_
    refine go_iload (q := 84) (gDec iX5_extreme_ok 42 rfl) rfl rfl ?_
    refine go_min (q := 87) kX5_87 (gDec iX5_extreme_ok 43 rfl) (Nat.le_of_ble_eq_true rfl) (gFit_rm (by decide) (by decide)) rfl ?_
    refine go_istore (q := 89) (gDec iX5_extreme_ok 44 rfl) (by decide) rfl ?_
    refine go_iinc (v := nI (i + 1)) (q := 92) (gDec iX5_extreme_ok 45 rfl) rfl (nI_1 i) (by decide) rfl ?_
    refine go_goto (t := 40) (gDec iX5_extreme_ok 46 rfl) (by decide) ?_
    refine go_sub (L' := [(0, .ref (κ.2.1 + 2)), (1, .int (nI g)), (2, .ref (κ.2.1 + r)), (3, .int 0), (4, .int ((fun p a => gMxx false a (σ.1 x ((g * 3 + c) * 12 + p))) i a)), (5, .int (nI c)), (6, .int (nI (i + 1)))]) ⟨rfl, rfl, rfl, rfl, rfl, rfl, rfl, trivial⟩ ?_
    exact ih (i + 1) ((fun p a => gMxx false a (σ.1 x ((g * 3 + c) * 12 + p))) i a) (by omega) h

set_option maxHeartbeats 4000000 in
set_option maxRecDepth 100000 in
theorem lpX5_extreme1l {κ : gK} {Z : gZ} {σ : gST} {r x g N : Nat} {pm : Nat → Nat} (hs : gFd r 7 0 = some (some x)) (ha : gSh x = .inr (0, 864)) (hr : r < gN) (har : x < gN) (hg : g < 24) (hN : N ≤ 3) (hm : σ.1 6 g = nI N) (hpm : ∀ c, c < N → σ.1 8 (g * 3 + c) = nI (pm c) ∧ pm c ≤ 12) : ∀ (m i : Nat) (a : Int32), i + m = N → Go κ mX5_extreme (gRm 3 0) Z 101 [(0, .ref (κ.2.1 + 2)), (1, .int (nI g)), (2, .ref (κ.2.1 + r)), (3, .int 0), (4, .int (gLoop (fun c a => gLoop (fun p a => gMxx false a (σ.1 x ((g * 3 + c) * 12 + p))) 0 (pm c) a) i m a)), (5, .int (nI N))] [] σ 0 → Go κ mX5_extreme (gRm 3 0) Z 27 [(0, .ref (κ.2.1 + 2)), (1, .int (nI g)), (2, .ref (κ.2.1 + r)), (3, .int 0), (4, .int a), (5, .int (nI i))] [] σ 0 := by
  intro m
  induction m with
  | zero =>
    intro i a hi h
    have hiN : N = i := by omega
    rw [hiN] at h
    refine go_iload (q := 29) (gDec iX5_extreme_ok 15 rfl) rfl rfl ?_
    refine go_aload_n (q := 30) (gDec iX5_extreme_ok 16 rfl) rfl rfl rfl ?_
    refine go_iload_n (q := 31) (gDec iX5_extreme_ok 17 rfl) rfl rfl rfl ?_
    refine go_callV (n2 := 0) (q := 34) kX5_55 (ctX5_contourCount (by omega)) (gDec iX5_extreme_ok 18 rfl) rfl rfl (by decide) rfl rfl rfl (Nat.le_of_ble_eq_true rfl) rfl (gFit_rm (by decide) (by decide)) rfl ?_
    refine go_icmp_ge (t := 101) (q := 37) (gDec iX5_extreme_ok 19 rfl) (by decide) rfl (fun c34 => ?_) (fun c34 => False.elim (c34 (by rw [hm]; exact nI_le (by omega) (by omega))))
    refine go_sub (L' := [(0, .ref (κ.2.1 + 2)), (1, .int (nI g)), (2, .ref (κ.2.1 + r)), (3, .int 0), (4, .int a), (5, .int (nI i))]) ⟨rfl, rfl, rfl, rfl, rfl, rfl, trivial⟩ ?_
    exact h
  | succ m ih =>
    intro i a hi h
    refine go_iload (q := 29) (gDec iX5_extreme_ok 15 rfl) rfl rfl ?_
    refine go_aload_n (q := 30) (gDec iX5_extreme_ok 16 rfl) rfl rfl rfl ?_
    refine go_iload_n (q := 31) (gDec iX5_extreme_ok 17 rfl) rfl rfl rfl ?_
    refine go_callV (n2 := 0) (q := 34) kX5_55 (ctX5_contourCount (by omega)) (gDec iX5_extreme_ok 18 rfl) rfl rfl (by decide) rfl rfl rfl (Nat.le_of_ble_eq_true rfl) rfl (gFit_rm (by decide) (by decide)) rfl ?_
    refine go_icmp_ge (t := 101) (q := 37) (gDec iX5_extreme_ok 19 rfl) (by decide) rfl (fun c34 => False.elim (by rw [hm] at c34; exact nI_ge (a := i) (b := N) (by omega) (by omega) c34)) (fun c34 => ?_)
    refine go_iconst (v := 0) (q := 38) (gDec iX5_extreme_ok 20 rfl) (by decide) rfl ?_
    refine go_istore (q := 40) (gDec iX5_extreme_ok 21 rfl) (by decide) rfl ?_
    refine go_sub (L' := [(0, .ref (κ.2.1 + 2)), (1, .int (nI g)), (2, .ref (κ.2.1 + r)), (3, .int 0), (4, .int a), (5, .int (nI i)), (6, .int (nI 0))]) ⟨rfl, rfl, rfl, rfl, rfl, rfl, rfl, trivial⟩ ?_
    refine lpX5_extreme2l (N := N) hs ha hr har hg (by omega) (hpm i (by omega)).2 (hpm i (by omega)).1 (pm i) 0 a (by omega) ?_
    refine go_iinc (v := nI (i + 1)) (q := 98) (gDec iX5_extreme_ok 47 rfl) rfl (nI_1 i) (by decide) rfl ?_
    refine go_goto (t := 27) (gDec iX5_extreme_ok 48 rfl) (by decide) ?_
    refine go_sub (L' := [(0, .ref (κ.2.1 + 2)), (1, .int (nI g)), (2, .ref (κ.2.1 + r)), (3, .int 0), (4, .int ((fun c a => gLoop (fun p a => gMxx false a (σ.1 x ((g * 3 + c) * 12 + p))) 0 (pm c) a) i a)), (5, .int (nI (i + 1)))]) ⟨rfl, rfl, rfl, rfl, rfl, rfl, trivial⟩ ?_
    exact ih (i + 1) ((fun c a => gLoop (fun p a => gMxx false a (σ.1 x ((g * 3 + c) * 12 + p))) 0 (pm c) a) i a) (by omega) h

set_option maxHeartbeats 4000000 in
set_option maxRecDepth 100000 in
theorem ctX5_extremel {κ : gK} {σ : gST} {r x g N : Nat} {pm : Nat → Nat} (hs : gFd r 7 0 = some (some x)) (ha : gSh x = .inr (0, 864)) (hr : r < gN) (har : x < gN) (hg : g < 24) (hN : N ≤ 3) (hm : σ.1 6 g = nI N) (hpm : ∀ c, c < N → σ.1 8 (g * 3 + c) = nI (pm c) ∧ pm c ≤ 12) : gCt κ mX5_extreme 3 [.ref (κ.2.1 + 2), .int (nI g), .ref (κ.2.1 + r), .int 0] σ (.inl (some (.int (gEx false (σ.1 x) pm g N)))) σ 0 := by
  obtain ⟨fs, hfs, -⟩ := gFd_of hs
  refine ct_of (by decide +kernel) rfl (Nat.le_of_ble_eq_true rfl) rfl ?_
  refine go_aload_n (q := 1) (gDec iX5_extreme_ok 0 rfl) rfl rfl rfl ?_
  refine go_iload_n (q := 2) (gDec iX5_extreme_ok 1 rfl) rfl rfl rfl ?_
  refine go_callV (n2 := 0) (q := 5) kX5_55 (ctX5_contourCount (by omega)) (gDec iX5_extreme_ok 2 rfl) rfl rfl (by decide) rfl rfl rfl (Nat.le_of_ble_eq_true rfl) rfl (gFit_rm (by decide) (by decide)) rfl ?_
  rw [hm]
  refine go_if_ne (t := 12) (q := 8) (gDec iX5_extreme_ok 3 rfl) (by decide) rfl (fun c5 => ?_) (fun c5 => ?_)
  · refine go_aload_n (q := 13) (gDec iX5_extreme_ok 6 rfl) rfl rfl rfl ?_
    refine go_iload_n (q := 14) (gDec iX5_extreme_ok 7 rfl) rfl rfl rfl ?_
    refine go_iconst (v := 0) (q := 15) (gDec iX5_extreme_ok 8 rfl) (by decide) rfl ?_
    refine go_iconst (v := 0) (q := 16) (gDec iX5_extreme_ok 9 rfl) (by decide) rfl ?_
    refine go_callS (n2 := 0) (q := 19) kX5_51 (ctX5_pointIndex (c := 0) (p := 0)) (gDec iX5_extreme_ok 10 rfl) rfl rfl (Nat.le_of_ble_eq_true rfl) rfl (gFit_rm (by decide) (by decide)) rfl ?_
    refine go_callV (n2 := 0) (q := 22) kX5_40 (ctX7_get hs ha hr har (by omega) (by decide)) (gDec iX5_extreme_ok 11 rfl) rfl hfs hr rfl rfl rfl (Nat.le_of_ble_eq_true rfl) rfl (gFit_rm (by decide) (by decide)) rfl ?_
    refine go_st (st' := [.int (if N = 0 then 0 else σ.1 x ((g * 3 + 0) * 12 + 0))]) ?_ ?_
    · first | (rw [if_pos (by rcases Nat.eq_zero_or_pos N with h | h; exact h; exact absurd c5 (nI_ne0 h (by omega)))]; done) | (rw [if_neg (fun h => c5 (by rw [h]; rfl))]; rfl) | (rw [if_pos ((nI_eq (b := 0) (by omega) (by decide)).mp c5)]; rfl)
    · refine go_istore (q := 24) (gDec iX5_extreme_ok 12 rfl) (by decide) rfl ?_
      refine go_iconst (v := 0) (q := 25) (gDec iX5_extreme_ok 13 rfl) (by decide) rfl ?_
      refine go_istore (q := 27) (gDec iX5_extreme_ok 14 rfl) (by decide) rfl ?_
      refine go_sub (L' := [(0, .ref (κ.2.1 + 2)), (1, .int (nI g)), (2, .ref (κ.2.1 + r)), (3, .int 0), (4, .int (if N = 0 then 0 else σ.1 x ((g * 3 + 0) * 12 + 0))), (5, .int (nI 0))]) ⟨rfl, rfl, rfl, rfl, rfl, rfl, trivial⟩ ?_
      refine lpX5_extreme1l hs ha hr har hg hN hm hpm N 0 _ (by omega) ?_
      refine go_iload (q := 103) (gDec iX5_extreme_ok 49 rfl) rfl rfl ?_
      exact go_ireturn (gDec iX5_extreme_ok 50 rfl) rfl rfl rfl rfl (by decide)
  · refine go_iconst (v := 0) (q := 9) (gDec iX5_extreme_ok 4 rfl) (by decide) rfl ?_
    refine go_goto (t := 22) (gDec iX5_extreme_ok 5 rfl) (by decide) ?_
    refine go_st (st' := [.int (if N = 0 then 0 else σ.1 x ((g * 3 + 0) * 12 + 0))]) ?_ ?_
    · first | (rw [if_pos (by rcases Nat.eq_zero_or_pos N with h | h; exact h; exact absurd c5 (nI_ne0 h (by omega)))]; done) | (rw [if_neg (fun h => c5 (by rw [h]; rfl))]; rfl) | (rw [if_pos ((nI_eq (b := 0) (by omega) (by decide)).mp c5)]; rfl)
    · refine go_istore (q := 24) (gDec iX5_extreme_ok 12 rfl) (by decide) rfl ?_
      refine go_iconst (v := 0) (q := 25) (gDec iX5_extreme_ok 13 rfl) (by decide) rfl ?_
      refine go_istore (q := 27) (gDec iX5_extreme_ok 14 rfl) (by decide) rfl ?_
      refine go_sub (L' := [(0, .ref (κ.2.1 + 2)), (1, .int (nI g)), (2, .ref (κ.2.1 + r)), (3, .int 0), (4, .int (if N = 0 then 0 else σ.1 x ((g * 3 + 0) * 12 + 0))), (5, .int (nI 0))]) ⟨rfl, rfl, rfl, rfl, rfl, rfl, trivial⟩ ?_
      refine lpX5_extreme1l hs ha hr har hg hN hm hpm N 0 _ (by omega) ?_
      refine go_iload (q := 103) (gDec iX5_extreme_ok 49 rfl) rfl rfl ?_
      exact go_ireturn (gDec iX5_extreme_ok 50 rfl) rfl rfl rfl rfl (by decide)

set_option maxHeartbeats 4000000 in
set_option maxRecDepth 100000 in
theorem ctX5_leastx {κ : gK} {σ : gST} {g N : Nat} {pm : Nat → Nat} (hg : g < 24) (hN : N ≤ 3) (hm : σ.1 6 g = nI N) (hpm : ∀ c, c < N → σ.1 8 (g * 3 + c) = nI (pm c) ∧ pm c ≤ 12) : gCt κ mX5_least 4 [.ref (κ.2.1 + 2), .int (nI g), .int 0] σ (.inl (some (.int (gEx false (σ.1 10) pm g N)))) σ 0 := by
  refine ct_of (by decide +kernel) rfl (Nat.le_of_ble_eq_true rfl) rfl ?_
  refine go_aload_n (q := 1) (gDec iX5_least_ok 0 rfl) rfl rfl rfl ?_
  refine go_iload_n (q := 2) (gDec iX5_least_ok 1 rfl) rfl rfl rfl ?_
  refine go_iload_n (q := 3) (gDec iX5_least_ok 2 rfl) rfl rfl rfl ?_
  refine go_if_eq (t := 13) (q := 6) (gDec iX5_least_ok 3 rfl) (by decide) rfl (fun c3 => ?_) (fun c3 => False.elim (c3 rfl))
  refine go_aload_n (q := 14) (gDec iX5_least_ok 7 rfl) rfl rfl rfl ?_
  refine go_getr (r' := 9) (q := 17) fX5_26 (gDec iX5_least_ok 8 rfl) rfl (by decide) rfl ?_
  refine go_iconst (v := 0) (q := 18) (gDec iX5_least_ok 9 rfl) (by decide) rfl ?_
  refine go_callV (n2 := 0) (q := 21) kX5_78 (ctX5_extremel rfl rfl (by decide) (by decide) hg hN hm hpm) (gDec iX5_least_ok 10 rfl) rfl rfl (by decide) rfl rfl rfl (Nat.le_of_ble_eq_true rfl) rfl (gFit_rm (by decide) (by decide)) rfl ?_
  exact go_ireturn (gDec iX5_least_ok 11 rfl) rfl rfl rfl rfl (by decide)

set_option maxHeartbeats 4000000 in
set_option maxRecDepth 100000 in
theorem ctX5_leasty {κ : gK} {σ : gST} {g N : Nat} {pm : Nat → Nat} (hg : g < 24) (hN : N ≤ 3) (hm : σ.1 6 g = nI N) (hpm : ∀ c, c < N → σ.1 8 (g * 3 + c) = nI (pm c) ∧ pm c ≤ 12) : gCt κ mX5_least 4 [.ref (κ.2.1 + 2), .int (nI g), .int 1] σ (.inl (some (.int (gEx false (σ.1 12) pm g N)))) σ 0 := by
  refine ct_of (by decide +kernel) rfl (Nat.le_of_ble_eq_true rfl) rfl ?_
  refine go_aload_n (q := 1) (gDec iX5_least_ok 0 rfl) rfl rfl rfl ?_
  refine go_iload_n (q := 2) (gDec iX5_least_ok 1 rfl) rfl rfl rfl ?_
  refine go_iload_n (q := 3) (gDec iX5_least_ok 2 rfl) rfl rfl rfl ?_
  refine go_if_eq (t := 13) (q := 6) (gDec iX5_least_ok 3 rfl) (by decide) rfl (fun c3 => False.elim (absurd c3 (by decide))) (fun c3 => ?_)
  refine go_aload_n (q := 7) (gDec iX5_least_ok 4 rfl) rfl rfl rfl ?_
  refine go_getr (r' := 11) (q := 10) fX5_29 (gDec iX5_least_ok 5 rfl) rfl (by decide) rfl ?_
  refine go_goto (t := 17) (gDec iX5_least_ok 6 rfl) (by decide) ?_
  refine go_iconst (v := 0) (q := 18) (gDec iX5_least_ok 9 rfl) (by decide) rfl ?_
  refine go_callV (n2 := 0) (q := 21) kX5_78 (ctX5_extremel rfl rfl (by decide) (by decide) hg hN hm hpm) (gDec iX5_least_ok 10 rfl) rfl rfl (by decide) rfl rfl rfl (Nat.le_of_ble_eq_true rfl) rfl (gFit_rm (by decide) (by decide)) rfl ?_
  exact go_ireturn (gDec iX5_least_ok 11 rfl) rfl rfl rfl rfl (by decide)

set_option maxHeartbeats 4000000 in
set_option maxRecDepth 100000 in
theorem ctX5_greatestx {κ : gK} {σ : gST} {g N : Nat} {pm : Nat → Nat} (hg : g < 24) (hN : N ≤ 3) (hm : σ.1 6 g = nI N) (hpm : ∀ c, c < N → σ.1 8 (g * 3 + c) = nI (pm c) ∧ pm c ≤ 12) : gCt κ mX5_greatest 4 [.ref (κ.2.1 + 2), .int (nI g), .int 0] σ (.inl (some (.int (gEx true (σ.1 10) pm g N)))) σ 0 := by
  refine ct_of (by decide +kernel) rfl (Nat.le_of_ble_eq_true rfl) rfl ?_
  refine go_aload_n (q := 1) (gDec iX5_greatest_ok 0 rfl) rfl rfl rfl ?_
  refine go_iload_n (q := 2) (gDec iX5_greatest_ok 1 rfl) rfl rfl rfl ?_
  refine go_iload_n (q := 3) (gDec iX5_greatest_ok 2 rfl) rfl rfl rfl ?_
  refine go_if_eq (t := 13) (q := 6) (gDec iX5_greatest_ok 3 rfl) (by decide) rfl (fun c3 => ?_) (fun c3 => False.elim (c3 rfl))
  refine go_aload_n (q := 14) (gDec iX5_greatest_ok 7 rfl) rfl rfl rfl ?_
  refine go_getr (r' := 9) (q := 17) fX5_26 (gDec iX5_greatest_ok 8 rfl) rfl (by decide) rfl ?_
  refine go_iconst (v := 1) (q := 18) (gDec iX5_greatest_ok 9 rfl) (by decide) rfl ?_
  refine go_callV (n2 := 0) (q := 21) kX5_78 (ctX5_extremeg rfl rfl (by decide) (by decide) hg hN hm hpm) (gDec iX5_greatest_ok 10 rfl) rfl rfl (by decide) rfl rfl rfl (Nat.le_of_ble_eq_true rfl) rfl (gFit_rm (by decide) (by decide)) rfl ?_
  exact go_ireturn (gDec iX5_greatest_ok 11 rfl) rfl rfl rfl rfl (by decide)

set_option maxHeartbeats 4000000 in
set_option maxRecDepth 100000 in
theorem ctX5_greatesty {κ : gK} {σ : gST} {g N : Nat} {pm : Nat → Nat} (hg : g < 24) (hN : N ≤ 3) (hm : σ.1 6 g = nI N) (hpm : ∀ c, c < N → σ.1 8 (g * 3 + c) = nI (pm c) ∧ pm c ≤ 12) : gCt κ mX5_greatest 4 [.ref (κ.2.1 + 2), .int (nI g), .int 1] σ (.inl (some (.int (gEx true (σ.1 12) pm g N)))) σ 0 := by
  refine ct_of (by decide +kernel) rfl (Nat.le_of_ble_eq_true rfl) rfl ?_
  refine go_aload_n (q := 1) (gDec iX5_greatest_ok 0 rfl) rfl rfl rfl ?_
  refine go_iload_n (q := 2) (gDec iX5_greatest_ok 1 rfl) rfl rfl rfl ?_
  refine go_iload_n (q := 3) (gDec iX5_greatest_ok 2 rfl) rfl rfl rfl ?_
  refine go_if_eq (t := 13) (q := 6) (gDec iX5_greatest_ok 3 rfl) (by decide) rfl (fun c3 => False.elim (absurd c3 (by decide))) (fun c3 => ?_)
  refine go_aload_n (q := 7) (gDec iX5_greatest_ok 4 rfl) rfl rfl rfl ?_
  refine go_getr (r' := 11) (q := 10) fX5_29 (gDec iX5_greatest_ok 5 rfl) rfl (by decide) rfl ?_
  refine go_goto (t := 17) (gDec iX5_greatest_ok 6 rfl) (by decide) ?_
  refine go_iconst (v := 1) (q := 18) (gDec iX5_greatest_ok 9 rfl) (by decide) rfl ?_
  refine go_callV (n2 := 0) (q := 21) kX5_78 (ctX5_extremeg rfl rfl (by decide) (by decide) hg hN hm hpm) (gDec iX5_greatest_ok 10 rfl) rfl rfl (by decide) rfl rfl rfl (Nat.le_of_ble_eq_true rfl) rfl (gFit_rm (by decide) (by decide)) rfl ?_
  exact go_ireturn (gDec iX5_greatest_ok 11 rfl) rfl rfl rfl rfl (by decide)
