/-- how wide the word w is -/
def pWd (τ : gST) (w : Nat) : Int32 := gLoop (pBgS τ) ((pW τ (gPl_ τ)).2.1 w) ((pW τ (gPl_ τ)).2.2 w - 1) (pWO τ (pP τ ((pW τ (gPl_ τ)).2.1 w + (pW τ (gPl_ τ)).2.2 w - 1)))
theorem pBg_l (τ : gST) : ∀ (m i : Nat) (x : Int32), gLoop (pBgS τ) i m x + pBg τ i = x + pBg τ (i + m)
  | 0, _, _ => rfl
  | m + 1, i, x => by
    have h := pBg_l τ m (i + 1) (pBgS τ i x)
    rw [pBg_s] at h
    rw [show i + (m + 1) = i + 1 + m by omega]
    have e : pBgS τ i x = x + pSO τ (pP τ i) (pP τ (i + 1)) := rfl
    rw [e] at h
    show gLoop (pBgS τ) (i + 1) m (x + pSO τ (pP τ i) (pP τ (i + 1))) + pBg τ i = _
    have h2 : gLoop (pBgS τ) (i + 1) m (x + pSO τ (pP τ i) (pP τ (i + 1))) + pBg τ i + pSO τ (pP τ i) (pP τ (i + 1)) = x + pBg τ (i + 1 + m) + pSO τ (pP τ i) (pP τ (i + 1)) := by
      rw [Int32.add_assoc, h]
      rw [Int32.add_assoc, Int32.add_assoc, Int32.add_comm (pSO τ (pP τ i) (pP τ (i + 1)))]
    have h3 := congrArg (fun y => y - pSO τ (pP τ i) (pP τ (i + 1))) h2
    rw [Int32.add_sub_cancel, Int32.add_sub_cancel] at h3
    exact h3
def mW2 (τ : gST) (w : Nat) (a : gST) : gST := gPut a 384 w (pWd τ w)
def mFind (τ σ : gST) : gST := gLoop (mW2 τ) 0 (pW τ (gPl_ τ)).1 (gLoop (mFW τ) 0 (gPl_ τ) (gPut σ 376 13 0))
theorem mW2_k {τ : gST} : ∀ (m i : Nat) (a : gST), (∀ k, k ≠ 384 → (gLoop (mW2 τ) i m a).1 k = a.1 k) ∧ (gLoop (mW2 τ) i m a).2 = a.2 ∧ ∀ j, i ≤ j → j < i + m → (gLoop (mW2 τ) i m a).1 384 j = pWd τ j
  | 0, i, a => ⟨fun _ _ => rfl, rfl, fun j h1 h2 => by omega⟩
  | m + 1, i, a => by
    obtain ⟨h1, h2, h3⟩ := mW2_k (τ := τ) m (i + 1) (mW2 τ i a)
    refine ⟨fun k hk => (h1 k hk).trans (gPut_ne _ _ _ hk), h2, fun j hj hj2 => ?_⟩
    by_cases hji : j = i
    · have h5 : ∀ (m i : Nat) (a : gST) (j : Nat), j < i → (gLoop (mW2 τ) i m a).1 384 j = a.1 384 j := by
        intro m
        induction m with
        | zero => intro i a j _; rfl
        | succ m ih => intro i a j hj; exact (ih (i + 1) _ j (by omega)).trans (by unfold mW2; rw [gPut_at, if_neg (by omega)])
      refine (h5 m (i + 1) (mW2 τ i a) j (by omega)).trans ?_
      unfold mW2
      rw [gPut_at, if_pos ⟨rfl, hji⟩, hji]
    · exact h3 j (by omega) (by omega)
/-- the words found -/
def pFR (τ σ s : gST) : Prop := s.1 376 13 = nI (pW τ (gPl_ τ)).1 ∧ (∀ w, w < (pW τ (gPl_ τ)).1 → s.1 382 w = nI ((pW τ (gPl_ τ)).2.1 w) ∧ s.1 384 w = pWd τ w) ∧
  (∀ k, k ≠ 376 → k ≠ 382 → k ≠ 383 → k ≠ 384 → s.1 k = σ.1 k) ∧ (∀ j, j ≠ 13 → s.1 376 j = σ.1 376 j) ∧ s.2 = σ.2
theorem pFI_0 (τ σ : gST) : pFI τ σ 0 (gPut σ 376 13 0) := ⟨by rw [gPut_at, if_pos ⟨rfl, rfl⟩]; rfl, fun w hw => absurd hw (Nat.not_lt_zero _), fun k q1 _ _ => gPut_ne _ _ _ q1, fun j hj => by rw [gPut_at, if_neg (by omega)], rfl⟩
theorem mFind_R (τ σ : gST) : pFR τ σ (mFind τ σ) := by
  have h := pFI_l (τ := τ) (σ := σ) (gPl_ τ) 0 (gPut σ 376 13 0) (pFI_0 τ σ)
  rw [Nat.zero_add] at h
  obtain ⟨h1, h2, h3, h4, h5⟩ := h
  obtain ⟨k1, k2, k3⟩ := mW2_k (τ := τ) (pW τ (gPl_ τ)).1 0 (gLoop (mFW τ) 0 (gPl_ τ) (gPut σ 376 13 0))
  refine ⟨(congrFun (k1 376 (by decide)) 13).trans h1, fun w hw => ⟨(congrFun (k1 382 (by decide)) w).trans (h2 w hw).1, k3 w (by omega) (by omega)⟩, fun k q1 q2 q3 q4 => (k1 k q4).trans (h3 k q1 q2 q3), fun j hj => (congrFun (k1 376 (by decide)) j).trans (h4 j hj), k2.trans h5⟩

set_option maxHeartbeats 4000000 in
set_option maxRecDepth 100000 in
theorem lpX11_fw3 {κ : gK} {Z : gZ}  {τ b : gST} {w q : Nat} (hC : gCI τ) (hM : gMR τ (b.1 377)) (h60 : q < 60) (hw : w < 60) (hp : ∀ i, i ≤ q → b.1 381 i = lI (pP τ i) ∧ pO (gNg τ) (pP τ i)) : ∀ (m i : Nat) (a : Int32), i + m = q → Go κ mX11_findWords (gRm 7 0) Z 186 [(0, .ref (κ.2.1 + 376)), (1, .int (nI w)), (2, .int (nI q)), (3, .int (nI q))] [] (gPut b 384 w (gLoop (pBgS τ) i m a)) 0 → Go κ mX11_findWords (gRm 7 0) Z 148 [(0, .ref (κ.2.1 + 376)), (1, .int (nI w)), (2, .int (nI q)), (3, .int (nI i))] [] (gPut b 384 w a) 0 := by
  intro m
  induction m with
  | zero =>
    intro i a hi h
    have hiN : q = i := by omega
    subst hiN
    refine go_iload_n (q := 149) (gDec iX11_findWords_ok 92 rfl) rfl rfl rfl ?_
    refine go_iload_n (q := 150) (gDec iX11_findWords_ok 93 rfl) rfl rfl rfl ?_
    refine go_icmp_ge (t := 186) (q := 153) (gDec iX11_findWords_ok 94 rfl) (by decide) rfl (fun c150 => ?_) (fun c150 => False.elim (c150 (Int32.le_refl _)))
    refine go_sub (L' := [(0, .ref (κ.2.1 + 376)), (1, .int (nI w)), (2, .int (nI q)), (3, .int (nI q))]) ⟨rfl, rfl, rfl, rfl, trivial⟩ ?_
    exact h
  | succ m ih =>
    intro i a hi h
    refine go_iload_n (q := 149) (gDec iX11_findWords_ok 92 rfl) rfl rfl rfl ?_
    refine go_iload_n (q := 150) (gDec iX11_findWords_ok 93 rfl) rfl rfl rfl ?_
    refine go_icmp_ge (t := 186) (q := 153) (gDec iX11_findWords_ok 94 rfl) (by decide) rfl (fun c150 => False.elim (nI_ge (a := i) (b := q) (by omega) (by omega) c150)) (fun c150 => ?_)
    refine go_aload_n (q := 154) (gDec iX11_findWords_ok 95 rfl) rfl rfl rfl ?_
    refine go_getr (r' := 384) (q := 157) fX11_32 (gDec iX11_findWords_ok 96 rfl) rfl (by decide) rfl ?_
    refine go_iload_n (q := 158) (gDec iX11_findWords_ok 97 rfl) rfl rfl rfl ?_
    refine go_dup2 (q := 159) (gDec iX11_findWords_ok 98 rfl) rfl rfl rfl ?_
    refine go_ialdN (q := 160) (gDec iX11_findWords_ok 99 rfl) rfl (by decide) (by omega) (by decide) rfl ?_
    refine go_top (v' := a) (by rw [gPut_at, if_pos ⟨rfl, rfl⟩]) ?_
    refine go_aload_n (q := 161) (gDec iX11_findWords_ok 100 rfl) rfl rfl rfl ?_
    refine go_aload_n (q := 162) (gDec iX11_findWords_ok 101 rfl) rfl rfl rfl ?_
    refine go_getr (r' := 381) (q := 165) fX11_23 (gDec iX11_findWords_ok 102 rfl) rfl (by decide) rfl ?_
    refine go_iload_n (q := 166) (gDec iX11_findWords_ok 103 rfl) rfl rfl rfl ?_
    refine go_ialdN (q := 167) (gDec iX11_findWords_ok 104 rfl) rfl (by decide) (by omega) (by decide) rfl ?_
    refine go_top (v' := lI (pP τ i)) ((hp i (by omega)).1) ?_
    refine go_aload_n (q := 168) (gDec iX11_findWords_ok 105 rfl) rfl rfl rfl ?_
    refine go_getr (r' := 381) (q := 171) fX11_23 (gDec iX11_findWords_ok 106 rfl) rfl (by decide) rfl ?_
    refine go_iload_n (q := 172) (gDec iX11_findWords_ok 107 rfl) rfl rfl rfl ?_
    refine go_iconst (v := nI 1) (q := 173) (gDec iX11_findWords_ok 108 rfl) (by decide) rfl ?_
    refine go_iaddN (c := i + 1) (q := 174) (gDec iX11_findWords_ok 109 rfl) rfl rfl ?_
    refine go_ialdN (q := 175) (gDec iX11_findWords_ok 110 rfl) rfl (by decide) (by omega) (by decide) rfl ?_
    refine go_top (v' := lI (pP τ (i + 1))) ((hp (i + 1) (by omega)).1) ?_
    refine go_callV (n2 := 0) (q := 178) kX11_206 (ctX11_stepOver (τ := τ) hC (show gMR τ ((gPut b 384 w a).1 377) from hM) (hp i (by omega)).2 (hp (i + 1) (by omega)).2) (gDec iX11_findWords_ok 111 rfl) rfl rfl (by decide) rfl rfl rfl (Nat.le_of_ble_eq_true rfl) rfl (gFit_rm (by decide) (by decide)) rfl ?_
    refine go_iadd (q := 179) (gDec iX11_findWords_ok 112 rfl) rfl ?_
    refine go_iastN (q := 180) (gDec iX11_findWords_ok 113 rfl) rfl (by decide) (by omega) (by decide) rfl ?_
    refine go_w (show _ = gPut b 384 w (pBgS τ i a) from gPut_tw _ _ _ _ _) ?_
    refine go_iinc (v := nI (i + 1)) (q := 183) (gDec iX11_findWords_ok 114 rfl) rfl (nI_1 _) (by decide) rfl ?_
    refine go_goto (t := 148) (gDec iX11_findWords_ok 115 rfl) (by decide) ?_
    refine go_sub (L' := [(0, .ref (κ.2.1 + 376)), (1, .int (nI w)), (2, .int (nI q)), (3, .int (nI (i + 1)))]) ⟨rfl, rfl, rfl, rfl, trivial⟩ ?_
    exact ih (i + 1) ((pBgS τ) i a) (by omega) h

set_option maxHeartbeats 4000000 in
set_option maxRecDepth 100000 in
theorem lpX11_fw2 {κ : gK} {Z : gZ} {τ b : gST} (hC : gCI τ) (hM : gMR τ (b.1 377)) (h60 : gPl_ τ ≤ 60) (hp : ∀ i, i < gPl_ τ → b.1 381 i = lI (pP τ i) ∧ pO (gNg τ) (pP τ i)) (h13 : b.1 376 13 = nI (pW τ (gPl_ τ)).1) (h382 : ∀ w, w < (pW τ (gPl_ τ)).1 → b.1 382 w = nI ((pW τ (gPl_ τ)).2.1 w) ∧ b.1 383 w = nI ((pW τ (gPl_ τ)).2.2 w)) : ∀ (m i : Nat) (a : gST), i + m = (pW τ (gPl_ τ)).1 → (∀ k, k ≠ 384 → a.1 k = b.1 k) → Go κ mX11_findWords (gRm 7 0) Z 192 [(0, .ref (κ.2.1 + 376)), (1, .int (nI (pW τ (gPl_ τ)).1))] [] (gLoop (mW2 τ) i m a) 0 → Go κ mX11_findWords (gRm 7 0) Z 101 [(0, .ref (κ.2.1 + 376)), (1, .int (nI i))] [] a 0 := by
  have h24 := hC.dw.ng24
  obtain ⟨hk1, hk2, -⟩ := pW_I τ (gPl_ τ)
  obtain ⟨N, hN⟩ : ∃ N, (pW τ (gPl_ τ)).1 = N := ⟨_, rfl⟩
  rw [hN] at hk1 hk2 h13 h382
  rw [hN]
  intro m
  induction m with
  | zero =>
    intro i a hi hI h
    have hiN : N = i := by omega
    rw [← hiN]
    rw [← hiN] at h
    refine go_iload_n (q := 102) (gDec iX11_findWords_ok 61 rfl) rfl rfl rfl ?_
    refine go_aload_n (q := 103) (gDec iX11_findWords_ok 62 rfl) rfl rfl rfl ?_
    refine go_geti (q := 106) fX11_212 (gDec iX11_findWords_ok 63 rfl) rfl (by decide) rfl ?_
    refine go_top (v' := nI N) ((congrFun (hI 376 (by decide)) 13).trans h13) ?_
    refine go_icmp_ge (t := 192) (q := 109) (gDec iX11_findWords_ok 64 rfl) (by decide) rfl (fun c106 => ?_) (fun c106 => False.elim (c106 (Int32.le_refl _)))
    exact h
  | succ m ih =>
    intro i a hi hI h
    have ih2 := ih (i + 1) (mW2 τ i a) (by omega) (fun k hk => (gPut_ne _ _ _ hk).trans (hI k hk)) h
    clear ih h
    obtain ⟨hl1, hl2⟩ := hk2 i (by omega)
    obtain ⟨ha, hlo⟩ := h382 i (by omega)
    have e : mW2 τ i a = gPut a 384 i (gLoop (pBgS τ) ((pW τ (gPl_ τ)).2.1 i) (((pW τ (gPl_ τ)).2.2 i) - 1) (pWO τ (pP τ (((pW τ (gPl_ τ)).2.1 i) + ((pW τ (gPl_ τ)).2.2 i) - 1)))) := rfl
    rw [e] at ih2
    obtain ⟨s, hs⟩ : ∃ s, ((pW τ (gPl_ τ)).2.1 i) = s := ⟨_, rfl⟩
    obtain ⟨l, hl⟩ : ∃ l, ((pW τ (gPl_ τ)).2.2 i) = l + 1 := ⟨((pW τ (gPl_ τ)).2.2 i) - 1, by omega⟩
    rw [hs, hl] at hl2
    rw [hs] at ha
    rw [hl] at hlo
    rw [hs, hl, show s + (l + 1) - 1 = s + l by omega, Nat.add_sub_cancel] at ih2
    have hMa : gMR τ (a.1 377) := by rw [hI 377 (by decide)]; exact hM
    have hpa : ∀ i, i < gPl_ τ → a.1 381 i = lI (pP τ i) ∧ pO (gNg τ) (pP τ i) := by rw [hI 381 (by decide)]; exact hp
    have ha1 := (congrFun (hI 382 (by decide)) i).trans ha
    have hlo1 := (congrFun (hI 383 (by decide)) i).trans hlo
    refine go_iload_n (q := 102) (gDec iX11_findWords_ok 61 rfl) rfl rfl rfl ?_
    refine go_aload_n (q := 103) (gDec iX11_findWords_ok 62 rfl) rfl rfl rfl ?_
    refine go_geti (q := 106) fX11_212 (gDec iX11_findWords_ok 63 rfl) rfl (by decide) rfl ?_
    refine go_top (v' := nI N) ((congrFun (hI 376 (by decide)) 13).trans h13) ?_
    refine go_icmp_ge (t := 192) (q := 109) (gDec iX11_findWords_ok 64 rfl) (by decide) rfl (fun c106 => False.elim (nI_ge (a := i) (b := N) (by omega) (by omega) c106)) (fun c106 => ?_)
    refine go_aload_n (q := 110) (gDec iX11_findWords_ok 65 rfl) rfl rfl rfl ?_
    refine go_getr (r' := 382) (q := 113) fX11_26 (gDec iX11_findWords_ok 66 rfl) rfl (by decide) rfl ?_
    refine go_iload_n (q := 114) (gDec iX11_findWords_ok 67 rfl) rfl rfl rfl ?_
    refine go_ialdN (q := 115) (gDec iX11_findWords_ok 68 rfl) rfl (by decide) (by omega) (by decide) rfl ?_
    refine go_top (v' := nI s) (ha1) ?_
    refine go_aload_n (q := 116) (gDec iX11_findWords_ok 69 rfl) rfl rfl rfl ?_
    refine go_getr (r' := 383) (q := 119) fX11_29 (gDec iX11_findWords_ok 70 rfl) rfl (by decide) rfl ?_
    refine go_iload_n (q := 120) (gDec iX11_findWords_ok 71 rfl) rfl rfl rfl ?_
    refine go_ialdN (q := 121) (gDec iX11_findWords_ok 72 rfl) rfl (by decide) (by omega) (by decide) rfl ?_
    refine go_top (v' := nI (l + 1)) (hlo1) ?_
    refine go_iaddN (c := s + (l + 1)) (q := 122) (gDec iX11_findWords_ok 73 rfl) rfl rfl ?_
    refine go_top (v' := nI ((s + l) + 1)) (congrArg nI (by omega)) ?_
    refine go_iconst (v := nI 1) (q := 123) (gDec iX11_findWords_ok 74 rfl) (by decide) rfl ?_
    refine go_isub (q := 124) (gDec iX11_findWords_ok 75 rfl) rfl ?_
    refine go_top (v' := nI (s + l)) (nI_pred (s + l)) ?_
    refine go_istore_n (q := 125) (gDec iX11_findWords_ok 76 rfl) rfl (by decide) rfl ?_
    refine go_aload_n (q := 126) (gDec iX11_findWords_ok 77 rfl) rfl rfl rfl ?_
    refine go_getr (r' := 384) (q := 129) fX11_32 (gDec iX11_findWords_ok 78 rfl) rfl (by decide) rfl ?_
    refine go_iload_n (q := 130) (gDec iX11_findWords_ok 79 rfl) rfl rfl rfl ?_
    refine go_aload_n (q := 131) (gDec iX11_findWords_ok 80 rfl) rfl rfl rfl ?_
    refine go_aload_n (q := 132) (gDec iX11_findWords_ok 81 rfl) rfl rfl rfl ?_
    refine go_getr (r' := 381) (q := 135) fX11_23 (gDec iX11_findWords_ok 82 rfl) rfl (by decide) rfl ?_
    refine go_iload_n (q := 136) (gDec iX11_findWords_ok 83 rfl) rfl rfl rfl ?_
    refine go_ialdN (q := 137) (gDec iX11_findWords_ok 84 rfl) rfl (by decide) (by omega) (by decide) rfl ?_
    refine go_top (v' := lI (pP τ (s + l))) ((hpa (s + l) (by omega)).1) ?_
    refine go_callV (n2 := 0) (q := 140) kX11_203 (ctX11_widthOf (τ := τ) (a := pP τ (s + l)) hC hMa (hpa (s + l) (by omega)).2) (gDec iX11_findWords_ok 85 rfl) rfl rfl (by decide) rfl rfl rfl (Nat.le_of_ble_eq_true rfl) rfl (gFit_rm (by decide) (by decide)) rfl ?_
    refine go_iastN (q := 141) (gDec iX11_findWords_ok 86 rfl) rfl (by decide) (by omega) (by decide) rfl ?_
    refine go_aload_n (q := 142) (gDec iX11_findWords_ok 87 rfl) rfl rfl rfl ?_
    refine go_getr (r' := 382) (q := 145) fX11_26 (gDec iX11_findWords_ok 88 rfl) rfl (by decide) rfl ?_
    refine go_iload_n (q := 146) (gDec iX11_findWords_ok 89 rfl) rfl rfl rfl ?_
    refine go_ialdN (q := 147) (gDec iX11_findWords_ok 90 rfl) rfl (by decide) (by omega) (by decide) rfl ?_
    refine go_top (v' := nI s) (ha1) ?_
    refine go_istore_n (q := 148) (gDec iX11_findWords_ok 91 rfl) rfl (by decide) rfl ?_
    refine go_sub (L' := [(0, .ref (κ.2.1 + 376)), (1, .int (nI i)), (2, .int (nI (s + l))), (3, .int (nI s))]) ⟨rfl, rfl, rfl, rfl, trivial⟩ ?_
    refine lpX11_fw3 (b := a) (w := i) (q := s + l) hC hMa (by omega) (by omega) (fun j hj => hpa j (by omega)) l s (pWO τ (pP τ (s + l))) rfl ?_
    refine go_iinc (v := nI (i + 1)) (q := 189) (gDec iX11_findWords_ok 116 rfl) rfl (nI_1 _) (by decide) rfl ?_
    refine go_goto (t := 101) (gDec iX11_findWords_ok 117 rfl) (by decide) ?_
    refine go_sub (L' := [(0, .ref (κ.2.1 + 376)), (1, .int (nI (i + 1)))]) ⟨rfl, rfl, trivial⟩ ?_
    exact ih2

set_option maxHeartbeats 4000000 in
set_option maxRecDepth 100000 in
theorem ctX11_findWords {κ : gK} {σ τ : gST} (hC : gCI τ) (hM : gMR τ (σ.1 377)) (h9 : σ.1 376 9 = nI (gPl_ τ)) (h60 : gPl_ τ ≤ 60) (hp : ∀ i, i < gPl_ τ → σ.1 381 i = lI (pP τ i) ∧ pO (gNg τ) (pP τ i)) : gCt κ mX11_findWords 7 [.ref (κ.2.1 + 376)] σ (.inl none) (mFind τ σ) 0 := by
  have h24 := hC.dw.ng24
  have hF := pFI_l (τ := τ) (σ := σ) (gPl_ τ) 0 (gPut σ 376 13 0) (pFI_0 τ σ)
  rw [Nat.zero_add] at hF
  refine ct_of (by decide +kernel) rfl (Nat.le_of_ble_eq_true rfl) rfl ?_
  refine go_aload_n (q := 1) (gDec iX11_findWords_ok 0 rfl) rfl rfl rfl ?_
  refine go_iconst (v := 0) (q := 2) (gDec iX11_findWords_ok 1 rfl) (by decide) rfl ?_
  refine go_puti (q := 5) fX11_212 gft11 (gDec iX11_findWords_ok 2 rfl) rfl (by decide) rfl rfl rfl rfl ?_
  refine go_iconst (v := nI 0) (q := 6) (gDec iX11_findWords_ok 3 rfl) (by decide) rfl ?_
  refine go_istore_n (q := 7) (gDec iX11_findWords_ok 4 rfl) rfl (by decide) rfl ?_
  refine go_sub (L' := [(0, .ref (κ.2.1 + 376)), (1, .int (nI 0))]) ⟨rfl, rfl, trivial⟩ ?_
  refine lpX11_fw1 (σ := σ) (τ := τ) (n := gPl_ τ) h24 h9 h60 hp (gPl_ τ) 0 (gPut σ 376 13 0) (by omega) (pFI_0 τ σ) ?_
  refine go_iconst (v := nI 0) (q := 100) (gDec iX11_findWords_ok 59 rfl) (by decide) rfl ?_
  refine go_istore_n (q := 101) (gDec iX11_findWords_ok 60 rfl) rfl (by decide) rfl ?_
  refine go_sub (L' := [(0, .ref (κ.2.1 + 376)), (1, .int (nI 0))]) ⟨rfl, rfl, trivial⟩ ?_
  refine lpX11_fw2 (τ := τ) hC (by rw [hF.2.2.1 377 (by decide) (by decide) (by decide)]; exact hM) h60 (by rw [hF.2.2.1 381 (by decide) (by decide) (by decide)]; exact hp) hF.1 hF.2.1 (pW τ (gPl_ τ)).1 0 _ (by omega) (fun _ _ => rfl) ?_
  exact go_return (gDec iX11_findWords_ok 118 rfl) rfl rfl rfl (by decide)
