set_option maxHeartbeats 4000000 in
set_option maxRecDepth 100000 in
theorem ok_undo {κ : gK} {σ τ : gST} (h : gAll τ σ) : gOK κ mX11_undo [.ref (κ.2.1 + 376)] σ (rI (aI (fUndo τ).1)) kS (fUndo τ) := by
  have hn8 := h.n8
  have hx : nA (τ.1 71 1) ≤ 7 := nA_le h.cb.1.1.2
  have hH := h.cb.1
  have h4 : σ.1 376 4 = nI (nA (τ.1 71 2)) := h.hr.1
  by_cases h0 : τ.1 71 2 = 0
  · rw [show fUndo τ = (xISE, τ) from if_pos h0]
    refine gOK.rd h rfl ?_
    refine ct_of (by decide +kernel) rfl (Nat.le_of_ble_eq_true rfl) rfl ?_
    refine go_aload_n (q := 1) (gDec iX11_undo_ok 0 rfl) rfl rfl rfl ?_
    refine go_aload_n (q := 2) (gDec iX11_undo_ok 1 rfl) rfl rfl rfl ?_
    refine go_geti (q := 5) fX11_76 (gDec iX11_undo_ok 2 rfl) rfl (by decide) rfl ?_
    refine go_top (v' := 0) (h4.trans (by rw [h0]; rfl)) ?_
    refine go_if_ne (t := 12) (q := 8) (gDec iX11_undo_ok 3 rfl) (by decide) rfl (fun c5 => False.elim (c5 rfl)) (fun c5 => ?_)
    refine go_iconst (v := nI 1) (q := 9) (gDec iX11_undo_ok 4 rfl) (by decide) rfl ?_
    refine go_goto (t := 13) (gDec iX11_undo_ok 5 rfl) (by decide) ?_
    refine go_puti (q := 16) fX11_54 gft11 (gDec iX11_undo_ok 7 rfl) rfl (by decide) rfl rfl rfl rfl ?_
    refine go_aload_n (q := 17) (gDec iX11_undo_ok 8 rfl) rfl rfl rfl ?_
    refine go_geti (q := 20) fX11_54 (gDec iX11_undo_ok 9 rfl) rfl (by decide) rfl ?_
    refine go_top (v' := nI 1) rfl ?_
    refine go_if_le (t := 25) (q := 23) (gDec iX11_undo_ok 10 rfl) (by decide) rfl (fun c20 => False.elim (absurd c20 (by decide))) (fun c20 => ?_)
    refine go_iconst (v := nI 0) (q := 24) (gDec iX11_undo_ok 11 rfl) (by decide) rfl ?_
    exact go_ireturn (gDec iX11_undo_ok 12 rfl) rfl rfl rfl (congrArg (gPut σ 376 5) xc_S_S) (by decide)
  · rw [show fUndo τ = (rI ((gPut (gTake τ) 363 6 0).1 71 2), (gPut (gTake τ) 363 6 0)) from if_neg h0]
    have hnz : nA (τ.1 71 2) ≠ 0 := fun h9 => h0 (by rw [nA_n hH.2.1, h9]; rfl)
    obtain ⟨n, hn⟩ : ∃ n, nA (τ.1 71 2) = n + 1 := ⟨nA (τ.1 71 2) - 1, by omega⟩
    rw [hn] at h4 hn8
    obtain ⟨nx, hnx⟩ : ∃ nx, nA (τ.1 71 1) = nx := ⟨_, rfl⟩
    rw [hnx] at hx
    obtain ⟨c1, c2⟩ := h.hr.2 n (by omega)
    have hsl : gSlot τ n = 73 + 35 * ((nx + 7) % 8) := by unfold gSlot; rw [hnx, hn]; omega
    have hU : (gPut (gTake τ) 363 6 0) = gPut (gDc gLX1_copyFrom (gPut (gPut τ 71 1 (nI ((nx + 7) % 8))) 71 2 (nI n)) 1 (73 + 35 * ((nx + 7) % 8))) 363 6 0 := by
      unfold gTake
      rw [hnx, hn, Nat.add_sub_cancel]
    rw [hU]
    obtain ⟨τ', hτ⟩ : ∃ τ', τ' = gPut (gDc gLX1_copyFrom (gPut (gPut τ 71 1 (nI ((nx + 7) % 8))) 71 2 (nI n)) 1 (73 + 35 * ((nx + 7) % 8))) 363 6 0 := ⟨_, rfl⟩
    have ho : ∀ k, (k = 0 ∨ 36 ≤ k) → k ≠ 71 → k ≠ 363 → τ'.1 k = τ.1 k := fun k a1 a2 a3 => by
      rw [hτ, gPut_ne _ _ _ a3]
      refine (funext (fun i => gDc_out (by omega) i)).trans ?_
      rw [gPut_ne _ _ _ a2, gPut_ne _ _ _ a2]
    have e71 : τ'.1 71 1 = nI ((nx + 7) % 8) ∧ τ'.1 71 2 = nI n := by
      rw [hτ, gPut_ne _ _ _ (by decide)]
      refine ⟨(gDc_out (by omega) 1).trans ?_, (gDc_out (by omega) 2).trans ?_⟩
      · rw [gPut_at, if_neg (by omega), gPut_at, if_pos ⟨rfl, rfl⟩]
      · rw [gPut_at, if_pos ⟨rfl, rfl⟩]
    have e3636 : τ'.1 363 6 = 0 := by rw [hτ, gPut_at, if_pos ⟨rfl, rfl⟩]
    have hE : gEqL (gDg τ (gSlot τ n)) τ' := by
      rw [hτ, hsl]
      have hs1 : gEqL (gDg τ (73 + 35 * ((nx + 7) % 8))) (gDg (gPut (gPut τ 71 1 (nI ((nx + 7) % 8))) 71 2 (nI n)) (73 + 35 * ((nx + 7) % 8))) := (gDg_put (by omega) (by omega)).tr (gDg_put (by omega) (by omega))
      have hs2 : gEqL (gDg (gPut (gPut τ 71 1 (nI ((nx + 7) % 8))) 71 2 (nI n)) (73 + 35 * ((nx + 7) % 8))) (gDg (gDc gLX1_copyFrom (gPut (gPut τ 71 1 (nI ((nx + 7) % 8))) 71 2 (nI n)) 1 (73 + 35 * ((nx + 7) % 8))) 1) := gDc_eq (by omega) (by omega)
      have hs4 : gEqL (gDc gLX1_copyFrom (gPut (gPut τ 71 1 (nI ((nx + 7) % 8))) 71 2 (nI n)) 1 (73 + 35 * ((nx + 7) % 8))) (gPut (gDc gLX1_copyFrom (gPut (gPut τ 71 1 (nI ((nx + 7) % 8))) 71 2 (nI n)) 1 (73 + 35 * ((nx + 7) % 8))) 363 6 0) := gEqL.of (fun k h1 h2 => by rw [gPut_ne _ _ _ (by omega)])
      exact hs1.tr (hs2.tr ((gDg_1 _).tr hs4))
    have s1 : nA (τ'.1 71 1) = (nx + 7) % 8 := by rw [e71.1]; exact nA_nI (by omega)
    have s2 : nA (τ'.1 71 2) = n := by rw [e71.2]; exact nA_nI (by omega)
    rw [← hτ]
    refine ⟨(gPut (gSA (gPut (gPut σ 376 5 0) 376 4 (nI n)).1 377 (va_cpy (σ.1 379) (σ.1 377) (2500 * n) 0 2500), (gPut (gPut σ 376 5 0) 376 4 (nI n)).2) 376 9 0), ?_, rfl, ⟨fun k hk => ?_, rfl⟩, ?_⟩
    · rw [show (rI (τ'.1 71 2), τ').1 = rI (nI n) from by rw [e71.2]]
      refine ct_of (by decide +kernel) rfl (Nat.le_of_ble_eq_true rfl) rfl ?_
      refine go_aload_n (q := 1) (gDec iX11_undo_ok 0 rfl) rfl rfl rfl ?_
      refine go_aload_n (q := 2) (gDec iX11_undo_ok 1 rfl) rfl rfl rfl ?_
      refine go_geti (q := 5) fX11_76 (gDec iX11_undo_ok 2 rfl) rfl (by decide) rfl ?_
      refine go_top (v' := nI (n + 1)) (h4) ?_
      refine go_if_ne (t := 12) (q := 8) (gDec iX11_undo_ok 3 rfl) (by decide) rfl (fun c5 => ?_) (fun c5 => False.elim (nI_ne0 (n := n + 1) (by omega) (by omega) c5))
      refine go_iconst (v := nI 0) (q := 13) (gDec iX11_undo_ok 6 rfl) (by decide) rfl ?_
      refine go_puti (q := 16) fX11_54 gft11 (gDec iX11_undo_ok 7 rfl) rfl (by decide) rfl rfl rfl rfl ?_
      refine go_aload_n (q := 17) (gDec iX11_undo_ok 8 rfl) rfl rfl rfl ?_
      refine go_geti (q := 20) fX11_54 (gDec iX11_undo_ok 9 rfl) rfl (by decide) rfl ?_
      refine go_top (v' := nI 0) rfl ?_
      refine go_if_le (t := 25) (q := 23) (gDec iX11_undo_ok 10 rfl) (by decide) rfl (fun c20 => ?_) (fun c20 => False.elim (c20 (by decide)))
      refine go_aload_n (q := 26) (gDec iX11_undo_ok 13 rfl) rfl rfl rfl ?_
      refine go_dup (q := 27) (gDec iX11_undo_ok 14 rfl) rfl rfl ?_
      refine go_geti (q := 30) fX11_76 (gDec iX11_undo_ok 15 rfl) rfl (by decide) rfl ?_
      refine go_top (v' := nI (n + 1)) (h4) ?_
      refine go_iconst (v := 1) (q := 31) (gDec iX11_undo_ok 16 rfl) (by decide) rfl ?_
      refine go_isub (q := 32) (gDec iX11_undo_ok 17 rfl) rfl ?_
      refine go_top (v' := nI n) (nI_pred n) ?_
      refine go_puti (q := 35) fX11_76 gft11 (gDec iX11_undo_ok 18 rfl) rfl (by decide) rfl rfl rfl rfl ?_
      refine go_aload_n (q := 36) (gDec iX11_undo_ok 19 rfl) rfl rfl rfl ?_
      refine go_getr (r' := 379) (q := 39) fX11_16 (gDec iX11_undo_ok 20 rfl) rfl (by decide) rfl ?_
      refine go_sipush (v := nI 2500) (q := 42) (gDec iX11_undo_ok 21 rfl) (by decide) rfl ?_
      refine go_aload_n (q := 43) (gDec iX11_undo_ok 22 rfl) rfl rfl rfl ?_
      refine go_geti (q := 46) fX11_76 (gDec iX11_undo_ok 23 rfl) rfl (by decide) rfl ?_
      refine go_top (v' := nI n) (rfl) ?_
      refine go_imulN (c := 2500 * n) (q := 47) (gDec iX11_undo_ok 24 rfl) rfl rfl ?_
      refine go_aload_n (q := 48) (gDec iX11_undo_ok 25 rfl) rfl rfl rfl ?_
      refine go_getr (r' := 377) (q := 51) fX11_9 (gDec iX11_undo_ok 26 rfl) rfl (by decide) rfl ?_
      refine go_iconst (v := nI 0) (q := 52) (gDec iX11_undo_ok 27 rfl) (by decide) rfl ?_
      refine go_sipush (v := nI 2500) (q := 55) (gDec iX11_undo_ok 28 rfl) (by decide) rfl ?_
      refine go_copy (q := 58) kX11_79 (gDec iX11_undo_ok 29 rfl) rfl rfl (by decide) (by decide) (nI_pos (by omega)) (by decide) (by decide) (by rw [nI_clamp (by omega), nI_clamp (by decide)]; omega) (by decide) (Nat.le_of_ble_eq_true rfl) (gFit_rm (by decide) (by decide)) rfl ?_
      refine go_w (show _ = (gSA (gPut (gPut σ 376 5 0) 376 4 (nI n)).1 377 (va_cpy (σ.1 379) (σ.1 377) (2500 * n) 0 2500), (gPut (gPut σ 376 5 0) 376 4 (nI n)).2) from (by rw [nI_clamp (by omega), nI_clamp (by decide), nI_clamp (by decide)]; rfl)) ?_
      refine go_aload_n (q := 59) (gDec iX11_undo_ok 30 rfl) rfl rfl rfl ?_
      refine go_iconst (v := 0) (q := 60) (gDec iX11_undo_ok 31 rfl) (by decide) rfl ?_
      refine go_puti (q := 63) fX11_200 gft11 (gDec iX11_undo_ok 32 rfl) rfl (by decide) rfl rfl rfl rfl ?_
      refine go_aload_n (q := 64) (gDec iX11_undo_ok 33 rfl) rfl rfl rfl ?_
      refine go_geti (q := 67) fX11_76 (gDec iX11_undo_ok 34 rfl) rfl (by decide) rfl ?_
      refine go_top (v' := nI n) (rfl) ?_
      exact go_ireturn (gDec iX11_undo_ok 35 rfl) rfl rfl rfl rfl (by decide)
    · rw [gPut_ne _ _ _ (by omega)]
      exact (gSA_ne _ _ (by omega)).trans ((gPut_ne _ _ _ (by omega)).trans (gPut_ne _ _ _ (by omega)))
    · refine ⟨hE.ci c1, ⟨?_, ?_, ?_, ?_, ?_⟩, gMR.cs (hE.dw c1.dw) (fun i hi => ?_) (hE.mr c1.dw c2), ⟨?_, fun j hj => ?_⟩, ⟨?_, ?_⟩, ⟨⟨?_, ?_⟩, ⟨?_, ?_⟩, ?_⟩⟩
      · unfold gHW; rw [e71.1, e71.2, nI_toInt (by omega), nI_toInt (by omega)]; omega
      · unfold gTW; rw [ho 353 (by decide) (by decide) (by decide)]; exact h.cb.2.1
      · unfold gPW; rw [e3636, ho 365 (by decide) (by decide) (by decide)]; exact ⟨by decide, h.cb.2.2.1.2⟩
      · unfold gTl; rw [ho 353 (by decide) (by decide) (by decide), ho 355 (by decide) (by decide) (by decide)]; exact h.cb.2.2.2.1
      · unfold gPl_; rw [e3636]; intro i hi; exact absurd hi (Nat.not_lt_zero _)
      · show va_cpy (σ.1 379) (σ.1 377) (2500 * n) 0 2500 i = _
        unfold va_cpy
        rw [if_pos (by omega), show 2500 * n + (i - 0) = 2500 * n + i by omega]
      · rw [s2]; rfl
      · rw [s2] at hj
        have hs2 : gSlot τ' j = gSlot τ j := by unfold gSlot; rw [s1, s2, hnx, hn]; omega
        have h73 : 73 ≤ gSlot τ j ∧ gSlot τ j + 35 ≤ 353 := by unfold gSlot; omega
        have hE2 : gEqL (gDg τ (gSlot τ j)) (gDg τ' (gSlot τ j)) := gEqL.of (fun k h1 h2 => ho _ (by omega) (by omega) (by omega))
        obtain ⟨q1, q2⟩ := h.hr.2 j (by omega)
        rw [hs2]
        exact ⟨hE2.ci q1, hE2.mr q1.dw q2⟩
      · rw [ho 0 (by decide) (by decide) (by decide)]; exact h.sr.1
      · rw [ho 0 (by decide) (by decide) (by decide)]
        rcases h.sr.2 with h9 | ⟨h9, q1, q2⟩
        · exact Or.inl h9
        · have hE2 : gEqL (gDg τ 36) (gDg τ' 36) := gEqL.of (fun k h1 h2 => ho _ (by omega) (by omega) (by omega))
          exact Or.inr ⟨h9, hE2.ci q1, hE2.mr q1.dw q2⟩
      · rw [ho 353 (by decide) (by decide) (by decide)]; exact h.br.1.1
      · unfold gTl; rw [ho 353 (by decide) (by decide) (by decide), ho 355 (by decide) (by decide) (by decide)]; exact h.br.1.2
      · rw [e3636, gPut_at, if_pos ⟨rfl, rfl⟩]
      · unfold gPl_; rw [e3636]; intro i hi; exact absurd hi (Nat.not_lt_zero _)
      · rw [ho 0 (by decide) (by decide) (by decide)]; exact h.br.2.2

theorem gFind_none {τ : gST} (hC : gCI τ) {c : Int32} (hc : c = 32) : gFind (τ.1 4) c 0 (gNg τ) = -1 := by
  rcases gFind_ex (f := τ.1 4) (c := c) (gNg τ) 0 with h | ⟨k, -, hk, -, h4⟩
  · exact h
  · have := hC.gw.1 k (by omega)
    rw [h4, hc] at this
    exact absurd this.1 (by decide)
/-- whether the sign i is no proof -/
def gBS (τ : gST) (i : Nat) (b : Bool) : Bool := if ¬ τ.1 355 i = 32 ∧ gFind (τ.1 4) (τ.1 355 i) 0 (gNg τ) = -1 then true else b
theorem gIp9_s (f t : Nat → Int32) (N i m : Nat) : gIp9 f t N i (m + 1) = if t i = 32 then gIp9 f t N (i + 1) m else if gFind f (t i) 0 N = -1 then 0 else gIp9 f t N (i + 1) m := rfl
theorem gBS_ip {τ : gST} : ∀ (m i : Nat) (b : Bool), gLoop (gBS τ) i m b = (if gIp9 (τ.1 4) (τ.1 355) (gNg τ) i m = 0 then true else b)
  | 0, i, b => by
    show b = _
    unfold gIp9
    rw [if_neg (by decide)]
  | m + 1, i, b => by
    show gLoop (gBS τ) (i + 1) m (gBS τ i b) = _
    rw [gBS_ip m (i + 1), gIp9_s]
    by_cases h1 : τ.1 355 i = 32
    · rw [if_pos h1]
      have e : gBS τ i b = b := if_neg (fun h9 => h9.1 h1)
      rw [e]
    · rw [if_neg h1]
      by_cases h2 : gFind (τ.1 4) (τ.1 355 i) 0 (gNg τ) = -1
      · have e : gBS τ i b = true := if_pos ⟨h1, h2⟩
        rw [e, if_pos h2, if_pos rfl]
        split <;> rfl
      · have e : gBS τ i b = b := if_neg (fun h9 => h2 h9.2)
        rw [e, if_neg h2]
def o1 (b : Bool) : Int32 := if b = true then 1 else 0
/-- the model's proof taken up to i -/
def mTk (τ : gST) (i : Nat) (a : gST) : gST := gPut a 381 i (gFind (τ.1 4) (τ.1 355 i) 0 (gNg τ))
theorem mTk_k {τ : gST} : ∀ (m i : Nat) (a : gST), (∀ k, k ≠ 381 → (gLoop (mTk τ) i m a).1 k = a.1 k) ∧ (gLoop (mTk τ) i m a).2 = a.2 ∧ ∀ j, (gLoop (mTk τ) i m a).1 381 j = if i ≤ j ∧ j < i + m then gFind (τ.1 4) (τ.1 355 j) 0 (gNg τ) else a.1 381 j
  | 0, i, a => ⟨fun _ _ => rfl, rfl, fun j => by rw [if_neg (by omega)]; rfl⟩
  | m + 1, i, a => by
    obtain ⟨h1, h2, h3⟩ := mTk_k (τ := τ) m (i + 1) (mTk τ i a)
    refine ⟨fun k hk => (h1 k hk).trans (gPut_ne _ _ _ hk), h2, fun j => (h3 j).trans ?_⟩
    unfold mTk
    rw [gPut_s, uN]
    by_cases hj : j = i
    · rw [if_neg (by omega), if_pos hj, if_pos (by omega), hj]
    · rw [if_neg hj]
      by_cases h9 : i + 1 ≤ j ∧ j < i + 1 + m
      · rw [if_pos h9, if_pos (by omega)]
      · rw [if_neg h9, if_neg (by omega)]
theorem cTk_k {τ : gST} : ∀ (m i : Nat) (a : gST), (∀ k, k ≠ 365 → (gLoop (gTkS τ) i m a).1 k = a.1 k) ∧ (gLoop (gTkS τ) i m a).2 = a.2 ∧ ∀ j, (gLoop (gTkS τ) i m a).1 365 j = if i ≤ j ∧ j < i + m then gFind (τ.1 4) (τ.1 355 j) 0 (gNg τ) else a.1 365 j
  | 0, i, a => ⟨fun _ _ => rfl, rfl, fun j => by rw [if_neg (by omega)]; rfl⟩
  | m + 1, i, a => by
    obtain ⟨h1, h2, h3⟩ := cTk_k (τ := τ) m (i + 1) (gTkS τ i a)
    refine ⟨fun k hk => (h1 k hk).trans (gPut_ne _ _ _ hk), h2, fun j => (h3 j).trans ?_⟩
    unfold gTkS
    rw [gPut_s, uN]
    by_cases hj : j = i
    · rw [if_neg (by omega), if_pos hj, if_pos (by omega), hj]
    · rw [if_neg hj]
      by_cases h9 : i + 1 ≤ j ∧ j < i + 1 + m
      · rw [if_pos h9, if_pos (by omega)]
      · rw [if_neg h9, if_neg (by omega)]

set_option maxHeartbeats 4000000 in
set_option maxRecDepth 100000 in
theorem lpX11_tp1 {κ : gK} {Z : gZ} {σ τ : gST} (hC : gCI τ) (hM : gMR τ (σ.1 377)) (h60 : gTl τ ≤ 60) (hb : ∀ i, i < gTl τ → σ.1 380 i = τ.1 355 i) : ∀ (m i : Nat) (b : Bool), i + m = gTl τ → Go κ mX11_takeProof (gRm 9 0) Z 64 [(0, .ref (κ.2.1 + 376)), (1, .int (nI (gTl τ))), (2, .int (nI (gTl τ)))] [] (gPut (gPut σ 376 7 0) 376 5 (o1 (gLoop (gBS τ) i m b))) 0 → Go κ mX11_takeProof (gRm 9 0) Z 17 [(0, .ref (κ.2.1 + 376)), (1, .int (nI (gTl τ))), (2, .int (nI i))] [] (gPut (gPut σ 376 7 0) 376 5 (o1 b)) 0 := by
  have h24 := hC.dw.ng24
  intro m
  induction m with
  | zero =>
    intro i b hi h
    have hiN : gTl τ = i := by omega
    rw [← hiN]
    rw [← hiN] at h
    refine go_iload_n (q := 18) (gDec iX11_takeProof_ok 11 rfl) rfl rfl rfl ?_
    refine go_iload_n (q := 19) (gDec iX11_takeProof_ok 12 rfl) rfl rfl rfl ?_
    refine go_icmp_ge (t := 64) (q := 22) (gDec iX11_takeProof_ok 13 rfl) (by decide) rfl (fun c19 => ?_) (fun c19 => False.elim (c19 (Int32.le_refl _)))
    exact h
  | succ m ih =>
    intro i b hi h
    have ih2 := ih (i + 1) (gBS τ i b) (by omega) h
    by_cases h1 : τ.1 355 i = 32
    · skip
      refine go_iload_n (q := 18) (gDec iX11_takeProof_ok 11 rfl) rfl rfl rfl ?_
      refine go_iload_n (q := 19) (gDec iX11_takeProof_ok 12 rfl) rfl rfl rfl ?_
      refine go_icmp_ge (t := 64) (q := 22) (gDec iX11_takeProof_ok 13 rfl) (by decide) rfl (fun c19 => False.elim (nI_ge (a := i) (b := gTl τ) (by omega) (by omega) c19)) (fun c19 => ?_)
      refine go_aload_n (q := 23) (gDec iX11_takeProof_ok 14 rfl) rfl rfl rfl ?_
      refine go_aload_n (q := 24) (gDec iX11_takeProof_ok 15 rfl) rfl rfl rfl ?_
      refine go_getr (r' := 380) (q := 27) fX11_19 (gDec iX11_takeProof_ok 16 rfl) rfl (by decide) rfl ?_
      refine go_iload_n (q := 28) (gDec iX11_takeProof_ok 17 rfl) rfl rfl rfl ?_
      refine go_caldN (q := 29) (gDec iX11_takeProof_ok 18 rfl) rfl (by decide) (by omega) (by decide) rfl ?_
      refine go_top (v' := τ.1 355 i) (hb i (by omega)) ?_
      refine go_bipush (v := 32) (q := 31) (gDec iX11_takeProof_ok 19 rfl) (by decide) rfl ?_
      refine go_icmp_eq (t := 51) (q := 34) (gDec iX11_takeProof_ok 20 rfl) (by decide) rfl (fun c31 => ?_) (fun c31 => False.elim (c31 h1))
      refine go_aload_n (q := 52) (gDec iX11_takeProof_ok 30 rfl) rfl rfl rfl ?_
      refine go_geti (q := 55) fX11_54 (gDec iX11_takeProof_ok 31 rfl) rfl (by decide) rfl ?_
      refine go_top (v' := o1 b) (rfl) ?_
      refine go_puti (q := 58) fX11_54 gft11 (gDec iX11_takeProof_ok 32 rfl) rfl (by decide) rfl rfl rfl rfl ?_
      refine go_w (show _ = gPut (gPut σ 376 7 0) 376 5 (o1 b) from (gPut_tw _ _ _ _ _)) ?_
      refine go_iinc (v := nI (i + 1)) (q := 61) (gDec iX11_takeProof_ok 33 rfl) rfl (nI_1 _) (by decide) rfl ?_
      refine go_goto (t := 17) (gDec iX11_takeProof_ok 34 rfl) (by decide) ?_
      rw [show gBS τ i b = b from if_neg (fun h9 => h9.1 h1)] at ih2
      refine go_sub (L' := [(0, .ref (κ.2.1 + 376)), (1, .int (nI (gTl τ))), (2, .int (nI (i + 1)))]) ⟨rfl, rfl, rfl, trivial⟩ ?_
      exact ih2
    · rcases gFind_ex (f := τ.1 4) (c := τ.1 355 i) (gNg τ) 0 with h2 | ⟨j, -, hjl, hj, -⟩
      · skip
        refine go_iload_n (q := 18) (gDec iX11_takeProof_ok 11 rfl) rfl rfl rfl ?_
        refine go_iload_n (q := 19) (gDec iX11_takeProof_ok 12 rfl) rfl rfl rfl ?_
        refine go_icmp_ge (t := 64) (q := 22) (gDec iX11_takeProof_ok 13 rfl) (by decide) rfl (fun c19 => False.elim (nI_ge (a := i) (b := gTl τ) (by omega) (by omega) c19)) (fun c19 => ?_)
        refine go_aload_n (q := 23) (gDec iX11_takeProof_ok 14 rfl) rfl rfl rfl ?_
        refine go_aload_n (q := 24) (gDec iX11_takeProof_ok 15 rfl) rfl rfl rfl ?_
        refine go_getr (r' := 380) (q := 27) fX11_19 (gDec iX11_takeProof_ok 16 rfl) rfl (by decide) rfl ?_
        refine go_iload_n (q := 28) (gDec iX11_takeProof_ok 17 rfl) rfl rfl rfl ?_
        refine go_caldN (q := 29) (gDec iX11_takeProof_ok 18 rfl) rfl (by decide) (by omega) (by decide) rfl ?_
        refine go_top (v' := τ.1 355 i) (hb i (by omega)) ?_
        refine go_bipush (v := 32) (q := 31) (gDec iX11_takeProof_ok 19 rfl) (by decide) rfl ?_
        refine go_icmp_eq (t := 51) (q := 34) (gDec iX11_takeProof_ok 20 rfl) (by decide) rfl (fun c31 => False.elim (h1 c31)) (fun c31 => ?_)
        refine go_aload_n (q := 35) (gDec iX11_takeProof_ok 21 rfl) rfl rfl rfl ?_
        refine go_aload_n (q := 36) (gDec iX11_takeProof_ok 22 rfl) rfl rfl rfl ?_
        refine go_getr (r' := 380) (q := 39) fX11_19 (gDec iX11_takeProof_ok 23 rfl) rfl (by decide) rfl ?_
        refine go_iload_n (q := 40) (gDec iX11_takeProof_ok 24 rfl) rfl rfl rfl ?_
        refine go_caldN (q := 41) (gDec iX11_takeProof_ok 25 rfl) rfl (by decide) (by omega) (by decide) rfl ?_
        refine go_top (v' := τ.1 355 i) (hb i (by omega)) ?_
        refine go_callV (n2 := 0) (q := 44) kX11_85 (ctX11_withCode (τ := τ) hC.dw (gMRt hM)) (gDec iX11_takeProof_ok 26 rfl) rfl rfl (by decide) rfl rfl rfl (Nat.le_of_ble_eq_true rfl) rfl (gFit_rm (by decide) (by decide)) rfl ?_
        refine go_top (v' := -1) (h2) ?_
        refine go_if_ge (t := 51) (q := 47) (gDec iX11_takeProof_ok 27 rfl) (by decide) rfl (fun c44 => False.elim (absurd c44 (by decide))) (fun c44 => ?_)
        refine go_iconst (v := 1) (q := 48) (gDec iX11_takeProof_ok 28 rfl) (by decide) rfl ?_
        refine go_goto (t := 55) (gDec iX11_takeProof_ok 29 rfl) (by decide) ?_
        refine go_puti (q := 58) fX11_54 gft11 (gDec iX11_takeProof_ok 32 rfl) rfl (by decide) rfl rfl rfl rfl ?_
        refine go_w (show _ = gPut (gPut σ 376 7 0) 376 5 (o1 true) from (gPut_tw _ _ _ _ _)) ?_
        refine go_iinc (v := nI (i + 1)) (q := 61) (gDec iX11_takeProof_ok 33 rfl) rfl (nI_1 _) (by decide) rfl ?_
        refine go_goto (t := 17) (gDec iX11_takeProof_ok 34 rfl) (by decide) ?_
        rw [show gBS τ i b = true from if_pos ⟨h1, h2⟩] at ih2
        refine go_sub (L' := [(0, .ref (κ.2.1 + 376)), (1, .int (nI (gTl τ))), (2, .int (nI (i + 1)))]) ⟨rfl, rfl, rfl, trivial⟩ ?_
        exact ih2
      · have h2 : ¬ gFind (τ.1 4) (τ.1 355 i) 0 (gNg τ) = -1 := by rw [hj]; exact fun h9 => nI_pos (n := j) (by omega) (by rw [h9]; decide)
        refine go_iload_n (q := 18) (gDec iX11_takeProof_ok 11 rfl) rfl rfl rfl ?_
        refine go_iload_n (q := 19) (gDec iX11_takeProof_ok 12 rfl) rfl rfl rfl ?_
        refine go_icmp_ge (t := 64) (q := 22) (gDec iX11_takeProof_ok 13 rfl) (by decide) rfl (fun c19 => False.elim (nI_ge (a := i) (b := gTl τ) (by omega) (by omega) c19)) (fun c19 => ?_)
        refine go_aload_n (q := 23) (gDec iX11_takeProof_ok 14 rfl) rfl rfl rfl ?_
        refine go_aload_n (q := 24) (gDec iX11_takeProof_ok 15 rfl) rfl rfl rfl ?_
        refine go_getr (r' := 380) (q := 27) fX11_19 (gDec iX11_takeProof_ok 16 rfl) rfl (by decide) rfl ?_
        refine go_iload_n (q := 28) (gDec iX11_takeProof_ok 17 rfl) rfl rfl rfl ?_
        refine go_caldN (q := 29) (gDec iX11_takeProof_ok 18 rfl) rfl (by decide) (by omega) (by decide) rfl ?_
        refine go_top (v' := τ.1 355 i) (hb i (by omega)) ?_
        refine go_bipush (v := 32) (q := 31) (gDec iX11_takeProof_ok 19 rfl) (by decide) rfl ?_
        refine go_icmp_eq (t := 51) (q := 34) (gDec iX11_takeProof_ok 20 rfl) (by decide) rfl (fun c31 => False.elim (h1 c31)) (fun c31 => ?_)
        refine go_aload_n (q := 35) (gDec iX11_takeProof_ok 21 rfl) rfl rfl rfl ?_
        refine go_aload_n (q := 36) (gDec iX11_takeProof_ok 22 rfl) rfl rfl rfl ?_
        refine go_getr (r' := 380) (q := 39) fX11_19 (gDec iX11_takeProof_ok 23 rfl) rfl (by decide) rfl ?_
        refine go_iload_n (q := 40) (gDec iX11_takeProof_ok 24 rfl) rfl rfl rfl ?_
        refine go_caldN (q := 41) (gDec iX11_takeProof_ok 25 rfl) rfl (by decide) (by omega) (by decide) rfl ?_
        refine go_top (v' := τ.1 355 i) (hb i (by omega)) ?_
        refine go_callV (n2 := 0) (q := 44) kX11_85 (ctX11_withCode (τ := τ) hC.dw (gMRt hM)) (gDec iX11_takeProof_ok 26 rfl) rfl rfl (by decide) rfl rfl rfl (Nat.le_of_ble_eq_true rfl) rfl (gFit_rm (by decide) (by decide)) rfl ?_
        refine go_top (v' := nI j) (hj) ?_
        refine go_if_ge (t := 51) (q := 47) (gDec iX11_takeProof_ok 27 rfl) (by decide) rfl (fun c44 => ?_) (fun c44 => False.elim (c44 (nI_pos' (by omega))))
        refine go_aload_n (q := 52) (gDec iX11_takeProof_ok 30 rfl) rfl rfl rfl ?_
        refine go_geti (q := 55) fX11_54 (gDec iX11_takeProof_ok 31 rfl) rfl (by decide) rfl ?_
        refine go_top (v' := o1 b) (rfl) ?_
        refine go_puti (q := 58) fX11_54 gft11 (gDec iX11_takeProof_ok 32 rfl) rfl (by decide) rfl rfl rfl rfl ?_
        refine go_w (show _ = gPut (gPut σ 376 7 0) 376 5 (o1 b) from (gPut_tw _ _ _ _ _)) ?_
        refine go_iinc (v := nI (i + 1)) (q := 61) (gDec iX11_takeProof_ok 33 rfl) rfl (nI_1 _) (by decide) rfl ?_
        refine go_goto (t := 17) (gDec iX11_takeProof_ok 34 rfl) (by decide) ?_
        rw [show gBS τ i b = b from if_neg (fun h9 => h2 h9.2)] at ih2
        refine go_sub (L' := [(0, .ref (κ.2.1 + 376)), (1, .int (nI (gTl τ))), (2, .int (nI (i + 1)))]) ⟨rfl, rfl, rfl, trivial⟩ ?_
        exact ih2

set_option maxHeartbeats 4000000 in
set_option maxRecDepth 100000 in
theorem lpX11_tp2 {κ : gK} {Z : gZ} {σ τ : gST} (hC : gCI τ) (hM : gMR τ (σ.1 377)) (h60 : gTl τ ≤ 60) (hb : ∀ i, i < gTl τ → σ.1 380 i = τ.1 355 i) : ∀ (m i : Nat) (a : gST), i + m = gTl τ → (∀ k, k ≠ 381 → a.1 k = (gPut (gPut σ 376 7 0) 376 5 0).1 k) → Go κ mX11_takeProof (gRm 9 0) Z 117 [(0, .ref (κ.2.1 + 376)), (1, .int (nI (gTl τ))), (2, .int (nI (gTl τ)))] [] (gLoop (mTk τ) i m a) 0 → Go κ mX11_takeProof (gRm 9 0) Z 75 [(0, .ref (κ.2.1 + 376)), (1, .int (nI (gTl τ))), (2, .int (nI i))] [] a 0 := by
  have h24 := hC.dw.ng24
  intro m
  induction m with
  | zero =>
    intro i a hi hI h
    have hiN : gTl τ = i := by omega
    rw [← hiN]
    rw [← hiN] at h
    refine go_iload_n (q := 76) (gDec iX11_takeProof_ok 42 rfl) rfl rfl rfl ?_
    refine go_iload_n (q := 77) (gDec iX11_takeProof_ok 43 rfl) rfl rfl rfl ?_
    refine go_icmp_ge (t := 117) (q := 80) (gDec iX11_takeProof_ok 44 rfl) (by decide) rfl (fun c77 => ?_) (fun c77 => False.elim (c77 (Int32.le_refl _)))
    exact h
  | succ m ih =>
    intro i a hi hI h
    by_cases h1 : τ.1 355 i = 32
    · skip
      refine go_iload_n (q := 76) (gDec iX11_takeProof_ok 42 rfl) rfl rfl rfl ?_
      refine go_iload_n (q := 77) (gDec iX11_takeProof_ok 43 rfl) rfl rfl rfl ?_
      refine go_icmp_ge (t := 117) (q := 80) (gDec iX11_takeProof_ok 44 rfl) (by decide) rfl (fun c77 => False.elim (nI_ge (a := i) (b := gTl τ) (by omega) (by omega) c77)) (fun c77 => ?_)
      refine go_aload_n (q := 81) (gDec iX11_takeProof_ok 45 rfl) rfl rfl rfl ?_
      refine go_getr (r' := 381) (q := 84) fX11_23 (gDec iX11_takeProof_ok 46 rfl) rfl (by decide) rfl ?_
      refine go_iload_n (q := 85) (gDec iX11_takeProof_ok 47 rfl) rfl rfl rfl ?_
      refine go_aload_n (q := 86) (gDec iX11_takeProof_ok 48 rfl) rfl rfl rfl ?_
      refine go_getr (r' := 380) (q := 89) fX11_19 (gDec iX11_takeProof_ok 49 rfl) rfl (by decide) rfl ?_
      refine go_iload_n (q := 90) (gDec iX11_takeProof_ok 50 rfl) rfl rfl rfl ?_
      refine go_caldN (q := 91) (gDec iX11_takeProof_ok 51 rfl) rfl (by decide) (by omega) (by decide) rfl ?_
      refine go_top (v' := τ.1 355 i) ((congrFun (hI 380 (by decide)) i).trans (hb i (by omega))) ?_
      refine go_bipush (v := 32) (q := 93) (gDec iX11_takeProof_ok 52 rfl) (by decide) rfl ?_
      refine go_icmp_ne (t := 100) (q := 96) (gDec iX11_takeProof_ok 53 rfl) (by decide) rfl (fun c93 => False.elim (c93 h1)) (fun c93 => ?_)
      refine go_iconst (v := (-1)) (q := 97) (gDec iX11_takeProof_ok 54 rfl) (by decide) rfl ?_
      refine go_goto (t := 110) (gDec iX11_takeProof_ok 55 rfl) (by decide) ?_
      refine go_top (v' := gFind (τ.1 4) (τ.1 355 i) 0 (gNg τ)) ((gFind_none hC h1).symm) ?_
      refine go_iastN (q := 111) (gDec iX11_takeProof_ok 62 rfl) rfl (by decide) (by omega) (by decide) rfl ?_
      refine go_w (show _ = mTk τ i a from rfl) ?_
      refine go_iinc (v := nI (i + 1)) (q := 114) (gDec iX11_takeProof_ok 63 rfl) rfl (nI_1 _) (by decide) rfl ?_
      refine go_goto (t := 75) (gDec iX11_takeProof_ok 64 rfl) (by decide) ?_
      refine go_sub (L' := [(0, .ref (κ.2.1 + 376)), (1, .int (nI (gTl τ))), (2, .int (nI (i + 1)))]) ⟨rfl, rfl, rfl, trivial⟩ ?_
      exact ih (i + 1) (mTk τ i a) (by omega) (fun k hk => (gPut_ne _ _ _ hk).trans (hI k hk)) h
    · skip
      refine go_iload_n (q := 76) (gDec iX11_takeProof_ok 42 rfl) rfl rfl rfl ?_
      refine go_iload_n (q := 77) (gDec iX11_takeProof_ok 43 rfl) rfl rfl rfl ?_
      refine go_icmp_ge (t := 117) (q := 80) (gDec iX11_takeProof_ok 44 rfl) (by decide) rfl (fun c77 => False.elim (nI_ge (a := i) (b := gTl τ) (by omega) (by omega) c77)) (fun c77 => ?_)
      refine go_aload_n (q := 81) (gDec iX11_takeProof_ok 45 rfl) rfl rfl rfl ?_
      refine go_getr (r' := 381) (q := 84) fX11_23 (gDec iX11_takeProof_ok 46 rfl) rfl (by decide) rfl ?_
      refine go_iload_n (q := 85) (gDec iX11_takeProof_ok 47 rfl) rfl rfl rfl ?_
      refine go_aload_n (q := 86) (gDec iX11_takeProof_ok 48 rfl) rfl rfl rfl ?_
      refine go_getr (r' := 380) (q := 89) fX11_19 (gDec iX11_takeProof_ok 49 rfl) rfl (by decide) rfl ?_
      refine go_iload_n (q := 90) (gDec iX11_takeProof_ok 50 rfl) rfl rfl rfl ?_
      refine go_caldN (q := 91) (gDec iX11_takeProof_ok 51 rfl) rfl (by decide) (by omega) (by decide) rfl ?_
      refine go_top (v' := τ.1 355 i) ((congrFun (hI 380 (by decide)) i).trans (hb i (by omega))) ?_
      refine go_bipush (v := 32) (q := 93) (gDec iX11_takeProof_ok 52 rfl) (by decide) rfl ?_
      refine go_icmp_ne (t := 100) (q := 96) (gDec iX11_takeProof_ok 53 rfl) (by decide) rfl (fun c93 => ?_) (fun c93 => False.elim (h1 c93))
      refine go_aload_n (q := 101) (gDec iX11_takeProof_ok 56 rfl) rfl rfl rfl ?_
      refine go_aload_n (q := 102) (gDec iX11_takeProof_ok 57 rfl) rfl rfl rfl ?_
      refine go_getr (r' := 380) (q := 105) fX11_19 (gDec iX11_takeProof_ok 58 rfl) rfl (by decide) rfl ?_
      refine go_iload_n (q := 106) (gDec iX11_takeProof_ok 59 rfl) rfl rfl rfl ?_
      refine go_caldN (q := 107) (gDec iX11_takeProof_ok 60 rfl) rfl (by decide) (by omega) (by decide) rfl ?_
      refine go_top (v' := τ.1 355 i) ((congrFun (hI 380 (by decide)) i).trans (hb i (by omega))) ?_
      refine go_callV (n2 := 0) (q := 110) kX11_85 (ctX11_withCode (τ := τ) hC.dw (by rw [hI 377 (by decide)]; exact hM)) (gDec iX11_takeProof_ok 61 rfl) rfl rfl (by decide) rfl rfl rfl (Nat.le_of_ble_eq_true rfl) rfl (gFit_rm (by decide) (by decide)) rfl ?_
      refine go_top (v' := gFind (τ.1 4) (τ.1 355 i) 0 (gNg τ)) (rfl) ?_
      refine go_iastN (q := 111) (gDec iX11_takeProof_ok 62 rfl) rfl (by decide) (by omega) (by decide) rfl ?_
      refine go_w (show _ = mTk τ i a from rfl) ?_
      refine go_iinc (v := nI (i + 1)) (q := 114) (gDec iX11_takeProof_ok 63 rfl) rfl (nI_1 _) (by decide) rfl ?_
      refine go_goto (t := 75) (gDec iX11_takeProof_ok 64 rfl) (by decide) ?_
      refine go_sub (L' := [(0, .ref (κ.2.1 + 376)), (1, .int (nI (gTl τ))), (2, .int (nI (i + 1)))]) ⟨rfl, rfl, rfl, trivial⟩ ?_
      exact ih (i + 1) (mTk τ i a) (by omega) (fun k hk => (gPut_ne _ _ _ hk).trans (hI k hk)) h

set_option maxHeartbeats 4000000 in
set_option maxRecDepth 100000 in
theorem ok_takeProof {κ : gK} {σ τ : gST} (h : gAll τ σ) : gOK κ mX11_takeProof [.ref (κ.2.1 + 376)] σ (rI (aI (fTakeProof τ).1)) kA (fTakeProof τ) := by
  have hC := h.ci
  have hM := h.mr
  have hT := h.cb.2.1
  have h24 := hC.dw.ng24
  have h60 := hT.tl60
  have hb := h.br.1.2
  have hl : σ.1 376 7 = nI (gTl τ) := h.br.1.1.trans hT.tl
  have hg := gBS_ip (τ := τ) (gTl τ) 0 false
  by_cases h1 : gIp9 (τ.1 4) (τ.1 355) (gNg τ) 0 (gTl τ) = 0
  · rw [show fTakeProof τ = (xIAE, gPut τ 353 1 0) from if_pos h1]
    rw [if_pos h1] at hg
    refine ⟨gPut (gPut σ 376 7 0) 376 5 1, ?_, ?_, ⟨fun k hk => ?_, rfl⟩, ?_⟩
    · refine ct_of (by decide +kernel) rfl (Nat.le_of_ble_eq_true rfl) rfl ?_
      refine go_aload_n (q := 1) (gDec iX11_takeProof_ok 0 rfl) rfl rfl rfl ?_
      refine go_geti (q := 4) fX11_197 (gDec iX11_takeProof_ok 1 rfl) rfl (by decide) rfl ?_
      refine go_top (v' := nI (gTl τ)) (hl) ?_
      refine go_istore_n (q := 5) (gDec iX11_takeProof_ok 2 rfl) rfl (by decide) rfl ?_
      refine go_aload_n (q := 6) (gDec iX11_takeProof_ok 3 rfl) rfl rfl rfl ?_
      refine go_iconst (v := 0) (q := 7) (gDec iX11_takeProof_ok 4 rfl) (by decide) rfl ?_
      refine go_puti (q := 10) fX11_197 gft11 (gDec iX11_takeProof_ok 5 rfl) rfl (by decide) rfl rfl rfl rfl ?_
      refine go_aload_n (q := 11) (gDec iX11_takeProof_ok 6 rfl) rfl rfl rfl ?_
      refine go_iconst (v := nI 0) (q := 12) (gDec iX11_takeProof_ok 7 rfl) (by decide) rfl ?_
      refine go_puti (q := 15) fX11_54 gft11 (gDec iX11_takeProof_ok 8 rfl) rfl (by decide) rfl rfl rfl rfl ?_
      refine go_iconst (v := nI 0) (q := 16) (gDec iX11_takeProof_ok 9 rfl) (by decide) rfl ?_
      refine go_istore_n (q := 17) (gDec iX11_takeProof_ok 10 rfl) rfl (by decide) rfl ?_
      refine go_w (show _ = gPut (gPut σ 376 7 0) 376 5 (o1 false) from rfl) ?_
      refine go_sub (L' := [(0, .ref (κ.2.1 + 376)), (1, .int (nI (gTl τ))), (2, .int (nI 0))]) ⟨rfl, rfl, rfl, trivial⟩ ?_
      refine lpX11_tp1 hC hM h60 hb (gTl τ) 0 false (by omega) ?_
      rw [hg]
      refine go_aload_n (q := 65) (gDec iX11_takeProof_ok 35 rfl) rfl rfl rfl ?_
      refine go_geti (q := 68) fX11_54 (gDec iX11_takeProof_ok 36 rfl) rfl (by decide) rfl ?_
      refine go_top (v' := 1) (rfl) ?_
      refine go_if_le (t := 73) (q := 71) (gDec iX11_takeProof_ok 37 rfl) (by decide) rfl (fun c68 => False.elim (absurd c68 (by decide))) (fun c68 => ?_)
      refine go_iconst (v := nI 0) (q := 72) (gDec iX11_takeProof_ok 38 rfl) (by decide) rfl ?_
      exact go_ireturn (gDec iX11_takeProof_ok 39 rfl) rfl rfl rfl rfl (by decide)
    · rw [gPut_at, if_pos ⟨rfl, rfl⟩]; exact xc_A_A.symm
    · rw [gPut_ne _ _ _ (by omega), gPut_ne _ _ _ (by omega)]
    · have et : gTl (gPut τ 353 1 0) = 0 := by unfold gTl; rw [gPut_at, if_pos ⟨rfl, rfl⟩]; rfl
      refine h.low (fun k q1 q2 => gPut_ne _ _ _ (by omega)) rfl ?_ h.cb.2.2.1 (by rw [et]; exact fun i hi => absurd hi (Nat.not_lt_zero _)) h.cb.2.2.2.2 rfl rfl rfl rfl rfl ⟨⟨rfl, ?_⟩, h.br.2⟩
      · unfold gTW; rw [gPut_at, if_pos ⟨rfl, rfl⟩]; decide
      · show ∀ i, i < gTl (gPut τ 353 1 0) → _
        rw [et]; exact fun i hi => absurd hi (Nat.not_lt_zero _)
  · rw [show fTakeProof τ = (rI ((gPut (gLoop (gTkS τ) 0 (gTl τ) (gPut τ 363 6 (τ.1 353 1))) 353 1 0).1 363 6), (gPut (gLoop (gTkS τ) 0 (gTl τ) (gPut τ 363 6 (τ.1 353 1))) 353 1 0)) from if_neg h1]
    rw [if_neg h1] at hg
    obtain ⟨a1, a2, a3⟩ := cTk_k (τ := τ) (gTl τ) 0 (gPut τ 363 6 (τ.1 353 1))
    obtain ⟨b1, b2, b3⟩ := mTk_k (τ := τ) (gTl τ) 0 (gPut (gPut σ 376 7 0) 376 5 0)
    have e6 : (gPut (gLoop (gTkS τ) 0 (gTl τ) (gPut τ 363 6 (τ.1 353 1))) 353 1 0).1 363 6 = nI (gTl τ) := by rw [gPut_ne _ _ _ (by decide), a1 363 (by decide), gPut_at, if_pos ⟨rfl, rfl⟩]; exact hT.tl
    have epl : gPl_ (gPut (gLoop (gTkS τ) 0 (gTl τ) (gPut τ 363 6 (τ.1 353 1))) 353 1 0) = gTl τ := by unfold gPl_; rw [e6]; exact nA_nI (by omega)
    have et : gTl (gPut (gLoop (gTkS τ) 0 (gTl τ) (gPut τ 363 6 (τ.1 353 1))) 353 1 0) = 0 := by unfold gTl; rw [gPut_at, if_pos ⟨rfl, rfl⟩]; rfl
    have e365 : ∀ j, (gPut (gLoop (gTkS τ) 0 (gTl τ) (gPut τ 363 6 (τ.1 353 1))) 353 1 0).1 365 j = if 0 ≤ j ∧ j < 0 + gTl τ then gFind (τ.1 4) (τ.1 355 j) 0 (gNg τ) else τ.1 365 j := fun j => by
      rw [gPut_ne _ _ _ (by decide)]
      exact a3 j
    have hfr : ∀ j, -1 ≤ (gFind (τ.1 4) (τ.1 355 j) 0 (gNg τ)).toInt ∧ (gFind (τ.1 4) (τ.1 355 j) 0 (gNg τ)).toInt < gNg τ := fun j => by
      rcases gFind_ex (f := τ.1 4) (c := τ.1 355 j) (gNg τ) 0 with h2 | ⟨k, -, hk, h2, -⟩
      · rw [h2]; exact ⟨by decide, by rw [show ((-1 : Int32)).toInt = -1 by decide]; omega⟩
      · rw [h2, nI_toInt (by omega)]; omega
    refine ⟨(gPut (gLoop (mTk τ) 0 (gTl τ) (gPut (gPut σ 376 7 0) 376 5 0)) 376 9 (nI (gTl τ))), ?_, ?_, ⟨fun k hk => ?_, ?_⟩, ?_⟩
    · rw [show (rI ((gPut (gLoop (gTkS τ) 0 (gTl τ) (gPut τ 363 6 (τ.1 353 1))) 353 1 0).1 363 6), (gPut (gLoop (gTkS τ) 0 (gTl τ) (gPut τ 363 6 (τ.1 353 1))) 353 1 0)).1 = rI (nI (gTl τ)) from by rw [e6]]
      refine ct_of (by decide +kernel) rfl (Nat.le_of_ble_eq_true rfl) rfl ?_
      refine go_aload_n (q := 1) (gDec iX11_takeProof_ok 0 rfl) rfl rfl rfl ?_
      refine go_geti (q := 4) fX11_197 (gDec iX11_takeProof_ok 1 rfl) rfl (by decide) rfl ?_
      refine go_top (v' := nI (gTl τ)) (hl) ?_
      refine go_istore_n (q := 5) (gDec iX11_takeProof_ok 2 rfl) rfl (by decide) rfl ?_
      refine go_aload_n (q := 6) (gDec iX11_takeProof_ok 3 rfl) rfl rfl rfl ?_
      refine go_iconst (v := 0) (q := 7) (gDec iX11_takeProof_ok 4 rfl) (by decide) rfl ?_
      refine go_puti (q := 10) fX11_197 gft11 (gDec iX11_takeProof_ok 5 rfl) rfl (by decide) rfl rfl rfl rfl ?_
      refine go_aload_n (q := 11) (gDec iX11_takeProof_ok 6 rfl) rfl rfl rfl ?_
      refine go_iconst (v := nI 0) (q := 12) (gDec iX11_takeProof_ok 7 rfl) (by decide) rfl ?_
      refine go_puti (q := 15) fX11_54 gft11 (gDec iX11_takeProof_ok 8 rfl) rfl (by decide) rfl rfl rfl rfl ?_
      refine go_iconst (v := nI 0) (q := 16) (gDec iX11_takeProof_ok 9 rfl) (by decide) rfl ?_
      refine go_istore_n (q := 17) (gDec iX11_takeProof_ok 10 rfl) rfl (by decide) rfl ?_
      refine go_w (show _ = gPut (gPut σ 376 7 0) 376 5 (o1 false) from rfl) ?_
      refine go_sub (L' := [(0, .ref (κ.2.1 + 376)), (1, .int (nI (gTl τ))), (2, .int (nI 0))]) ⟨rfl, rfl, rfl, trivial⟩ ?_
      refine lpX11_tp1 hC hM h60 hb (gTl τ) 0 false (by omega) ?_
      rw [hg]
      refine go_aload_n (q := 65) (gDec iX11_takeProof_ok 35 rfl) rfl rfl rfl ?_
      refine go_geti (q := 68) fX11_54 (gDec iX11_takeProof_ok 36 rfl) rfl (by decide) rfl ?_
      refine go_top (v' := 0) (rfl) ?_
      refine go_if_le (t := 73) (q := 71) (gDec iX11_takeProof_ok 37 rfl) (by decide) rfl (fun c68 => ?_) (fun c68 => False.elim (c68 (by decide)))
      refine go_iconst (v := nI 0) (q := 74) (gDec iX11_takeProof_ok 40 rfl) (by decide) rfl ?_
      refine go_istore_n (q := 75) (gDec iX11_takeProof_ok 41 rfl) rfl (by decide) rfl ?_
      refine go_w (show _ = gPut (gPut σ 376 7 0) 376 5 0 from rfl) ?_
      refine go_sub (L' := [(0, .ref (κ.2.1 + 376)), (1, .int (nI (gTl τ))), (2, .int (nI 0))]) ⟨rfl, rfl, rfl, trivial⟩ ?_
      refine lpX11_tp2 hC hM h60 hb (gTl τ) 0 _ (by omega) (fun _ _ => rfl) ?_
      refine go_aload_n (q := 118) (gDec iX11_takeProof_ok 65 rfl) rfl rfl rfl ?_
      refine go_iload_n (q := 119) (gDec iX11_takeProof_ok 66 rfl) rfl rfl rfl ?_
      refine go_puti (q := 122) fX11_200 gft11 (gDec iX11_takeProof_ok 67 rfl) rfl (by decide) rfl rfl rfl rfl ?_
      refine go_iload_n (q := 123) (gDec iX11_takeProof_ok 68 rfl) rfl rfl rfl ?_
      exact go_ireturn (gDec iX11_takeProof_ok 69 rfl) rfl rfl rfl rfl (by decide)
    · rw [gPut_at, if_neg (by omega), b1 376 (by decide)]; rfl
    · rw [gPut_ne _ _ _ (by omega), b1 k (by omega), gPut_ne _ _ _ (by omega), gPut_ne _ _ _ (by omega)]
    · exact b2
    · refine h.low (fun k q1 q2 => by rw [gPut_ne _ _ _ (by omega), a1 k (by omega), gPut_ne _ _ _ (by omega)]) ?_ ?_ ?_ (by rw [et]; exact fun i hi => absurd hi (Nat.not_lt_zero _)) ?_ ?_ ?_ ?_ ?_ ?_ ⟨⟨?_, ?_⟩, ⟨?_, ?_⟩, ?_⟩
      · rw [gPut_ne _ _ _ (by omega), a1 0 (by omega), gPut_ne _ _ _ (by omega)]
      · unfold gTW; rw [gPut_at, if_pos ⟨rfl, rfl⟩]; decide
      · unfold gPW
        rw [e6, nI_toInt (by omega)]
        refine ⟨by omega, fun i hi => ?_⟩
        rw [e365]
        split
        · have := hfr i; omega
        · exact h.cb.2.2.1.2 i hi
      · rw [epl]
        intro i hi
        rw [e365, if_pos (by omega)]
        exact (hfr i).2
      · rw [gPut_ne _ _ _ (by omega), b1 377 (by omega)]; rfl
      · rw [gPut_ne _ _ _ (by omega), b1 378 (by omega)]; rfl
      · rw [gPut_ne _ _ _ (by omega), b1 379 (by omega)]; rfl
      · rw [gPut_at, if_neg (by omega), b1 376 (by omega)]; rfl
      · rw [gPut_at, if_neg (by omega), b1 376 (by omega)]; rfl
      · rw [gPut_at, if_neg (by omega), b1 376 (by omega), gPut_at, if_neg (by omega), gPut_at, if_pos ⟨rfl, rfl⟩]; rfl
      · rw [et]; exact fun i hi => absurd hi (Nat.not_lt_zero _)
      · rw [gPut_at, if_pos ⟨rfl, rfl⟩, e6]
      · rw [epl]
        intro i hi
        rw [e365, if_pos (by omega), gPut_ne _ _ _ (by omega), b3, if_pos (by omega)]
      · rw [gPut_at, if_neg (by omega), b1 376 (by omega)]
        show σ.1 376 21 = _
        rw [gPut_ne _ _ _ (by omega), a1 0 (by omega), gPut_ne _ _ _ (by omega)]
        exact h.br.2.2
