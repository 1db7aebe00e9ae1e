section trans
variable {τ τ' : gST}
theorem gPO.c (h : gPO τ) (e2 : τ'.1 2 = τ.1 2) (e6 : τ'.1 6 = τ.1 6) (e8 : τ'.1 8 = τ.1 8) (e10 : τ'.1 10 = τ.1 10) (e12 : τ'.1 12 = τ.1 12) : gPO τ' := by
  unfold gPO gNg gNc gNp at *
  rw [e2, e6, e8, e10, e12]
  exact h
theorem gGW.c (h : gGW τ) (e2 : τ'.1 2 = τ.1 2) (e4 : τ'.1 4 = τ.1 4) (e6 : τ'.1 6 = τ.1 6) (e31 : τ'.1 31 = τ.1 31) (e22 : τ'.1 22 = τ.1 22) (e24 : τ'.1 24 = τ.1 24) (e15 : τ'.1 15 = τ.1 15) : gGW τ' := by
  unfold gGW gNg at *
  rw [e2, e4, e6, e31, e22, e24, e15]
  exact h
theorem gSW.c (h : gSW τ) (e2 : τ'.1 2 = τ.1 2) (e31 : τ'.1 31 = τ.1 31) (e33 : τ'.1 33 = τ.1 33) (e35 : τ'.1 35 = τ.1 35) : gSW τ' := by
  unfold gSW gNg gNs at *
  rw [e2, e31, e33, e35]
  exact h
theorem gKW.c (h : gKW τ) (e26 : τ'.1 26 = τ.1 26) (e28 : τ'.1 28 = τ.1 28) (e20 : τ'.1 20 = τ.1 20) (e1 : τ'.1 1 = τ.1 1) : gKW τ' := by
  unfold gKW at *
  rw [e26, e28, e20, e1]
  exact h
theorem gLW.c (h : gLW τ) (e2 : τ'.1 2 = τ.1 2) (e17 : τ'.1 17 = τ.1 17) : gLW τ' := by
  have e : gLe τ' = gLe τ := by funext a; unfold gLe; rw [e17]
  unfold gLW gNg at *
  rw [e2, e]
  exact h
end trans
theorem gEn_del {ld ld' : Nat → Option Nat} (h : ∀ a, ld' a = ld a ∨ ld' a = none) : ∀ (f a : Nat), gEn ld f a → gEn ld' f a
  | 0, a, he => by
    rcases h a with h1 | h1
    · exact h1.trans he
    · exact h1
  | f + 1, a, he => fun b hb => by
    rcases h a with h1 | h1
    · exact gEn_del h f b (he b (h1.symm.trans hb))
    · rw [h1] at hb; cases hb

set_option maxHeartbeats 4000000 in
set_option maxRecDepth 100000 in
theorem okw_setSide {κ : gK} {σ τ : gST} {i j : Nat} {v : Int32} (h : gAll τ σ) (hi : i < gNg τ) (hj : j < 2) (h1 : gInS τ (nI i) (nI j)) (h2 : -200 ≤ v.toInt ∧ v.toInt ≤ 400) : gCt κ mX11_setSide 9 [.ref (κ.2.1 + 376), .int (nI i), .int (nI j), .int v] σ (rI (gSd τ (i * 2 + j))) (gPut (gPut (gChg (gPut σ 376 5 0) (nA (τ.1 71 2))) 377 (196 + 96 * i + (77 + 4 * j + 0)) v) 377 (196 + 96 * i + (77 + 4 * j + 1)) (-1)) 0 := by
  have hC := h.ci
  have hM := h.mr
  have hW := hC.dw
  have h24 := hW.ng24
  have hM2 : gMR τ ((gChg (gPut σ 376 5 0) (nA (τ.1 71 2))).1 377) := hM
  refine ct_of (by decide +kernel) rfl (Nat.le_of_ble_eq_true rfl) rfl ?_
  refine go_aload_n (q := 1) (gDec iX11_setSide_ok 0 rfl) rfl rfl rfl ?_
  refine go_aload_n (q := 2) (gDec iX11_setSide_ok 1 rfl) rfl rfl rfl ?_
  refine go_iload_n (q := 3) (gDec iX11_setSide_ok 2 rfl) rfl rfl rfl ?_
  refine go_iload_n (q := 4) (gDec iX11_setSide_ok 3 rfl) rfl rfl rfl ?_
  refine go_callV (n2 := 0) (q := 7) kX11_144 (ctX11_isSide (τ := τ) hW hM) (gDec iX11_setSide_ok 4 rfl) rfl rfl (by decide) rfl rfl rfl (Nat.le_of_ble_eq_true rfl) rfl (gFit_rm (by decide) (by decide)) rfl ?_
  refine go_top (v' := 1) (if_pos h1) ?_
  refine go_if_ne (t := 14) (q := 10) (gDec iX11_setSide_ok 5 rfl) (by decide) rfl (fun c7 => ?_) (fun c7 => False.elim (absurd c7 (by decide)))
  refine go_iload_n (q := 15) (gDec iX11_setSide_ok 8 rfl) rfl rfl rfl ?_
  refine go_i2l (q := 16) (gDec iX11_setSide_ok 9 rfl) rfl ?_
  refine go_sipush (v := (-200)) (q := 19) (gDec iX11_setSide_ok 10 rfl) (by decide) rfl ?_
  refine go_sipush (v := nI 400) (q := 22) (gDec iX11_setSide_ok 11 rfl) (by decide) rfl ?_
  refine go_callS (n2 := 0) (q := 25) kX11_57 ctX11_in (gDec iX11_setSide_ok 12 rfl) rfl rfl (Nat.le_of_ble_eq_true rfl) rfl (gFit_rm (by decide) (by decide)) rfl ?_
  refine go_top (v' := 1) (gWi_t (by (try rw [i2l_toInt]); exact h2)) ?_
  refine go_if_ne (t := 32) (q := 28) (gDec iX11_setSide_ok 13 rfl) (by decide) rfl (fun c25 => ?_) (fun c25 => False.elim (absurd c25 (by decide)))
  refine go_iconst (v := nI 0) (q := 33) (gDec iX11_setSide_ok 16 rfl) (by decide) rfl ?_
  refine go_puti (q := 36) fX11_54 gft11 (gDec iX11_setSide_ok 17 rfl) rfl (by decide) rfl rfl rfl rfl ?_
  refine go_aload_n (q := 37) (gDec iX11_setSide_ok 18 rfl) rfl rfl rfl ?_
  refine go_geti (q := 40) fX11_54 (gDec iX11_setSide_ok 19 rfl) rfl (by decide) rfl ?_
  refine go_top (v' := nI 0) rfl ?_
  refine go_if_le (t := 45) (q := 43) (gDec iX11_setSide_ok 20 rfl) (by decide) rfl (fun c40 => ?_) (fun c40 => False.elim (c40 (by decide)))
  refine go_aload_n (q := 46) (gDec iX11_setSide_ok 23 rfl) rfl rfl rfl ?_
  refine go_callV (n2 := 0) (q := 49) kX11_89 (ctX11_change (n := (nA (τ.1 71 2))) h.hr.1 h.n8) (gDec iX11_setSide_ok 24 rfl) rfl rfl (by decide) rfl rfl rfl (Nat.le_of_ble_eq_true rfl) rfl (gFit_rm (by decide) (by decide)) rfl ?_
  refine go_w (show _ = gChg (gPut σ 376 5 0) (nA (τ.1 71 2)) from rfl) ?_
  refine go_iconst (v := nI 2) (q := 50) (gDec iX11_setSide_ok 25 rfl) (by decide) rfl ?_
  refine go_iload_n (q := 51) (gDec iX11_setSide_ok 26 rfl) rfl rfl rfl ?_
  refine go_imulN (c := 2 * i) (q := 52) (gDec iX11_setSide_ok 27 rfl) rfl rfl ?_
  refine go_iload_n (q := 53) (gDec iX11_setSide_ok 28 rfl) rfl rfl rfl ?_
  refine go_iaddN (c := 2 * i + j) (q := 54) (gDec iX11_setSide_ok 29 rfl) rfl rfl ?_
  refine go_istore (q := 56) (gDec iX11_setSide_ok 30 rfl) (by decide) rfl ?_
  refine go_aload_n (q := 57) (gDec iX11_setSide_ok 31 rfl) rfl rfl rfl ?_
  refine go_iload (q := 59) (gDec iX11_setSide_ok 32 rfl) rfl rfl ?_
  refine go_callV (n2 := 0) (q := 62) kX11_141 (ctX11_bearing (τ := τ) (b := 2 * i + j) hC hM2 (by omega)) (gDec iX11_setSide_ok 33 rfl) rfl rfl (by decide) rfl rfl rfl (Nat.le_of_ble_eq_true rfl) rfl (gFit_rm (by decide) (by decide)) rfl ?_
  refine go_top (v' := gSd τ (i * 2 + j)) (by rw [show 2 * i + j = i * 2 + j by omega]) ?_
  refine go_istore (q := 64) (gDec iX11_setSide_ok 34 rfl) (by decide) rfl ?_
  refine go_aload_n (q := 65) (gDec iX11_setSide_ok 35 rfl) rfl rfl rfl ?_
  refine go_getr (r' := 377) (q := 68) fX11_9 (gDec iX11_setSide_ok 36 rfl) rfl (by decide) rfl ?_
  refine go_iload (q := 70) (gDec iX11_setSide_ok 37 rfl) rfl rfl ?_
  refine go_iconst (v := nI 0) (q := 71) (gDec iX11_setSide_ok 38 rfl) (by decide) rfl ?_
  refine go_callS (n2 := 0) (q := 74) kX11_135 (ctX11_sideAt (b := 2 * i + j) (w := 0) (by omega)) (gDec iX11_setSide_ok 39 rfl) rfl rfl (Nat.le_of_ble_eq_true rfl) rfl (gFit_rm (by decide) (by decide)) rfl ?_
  refine go_top (v' := nI (196 + 96 * i + (77 + 4 * j + 0))) (congrArg nI (by omega)) ?_
  refine go_iload_n (q := 75) (gDec iX11_setSide_ok 40 rfl) rfl rfl rfl ?_
  refine go_iastN (q := 76) (gDec iX11_setSide_ok 41 rfl) rfl (by decide) (by omega) (by decide) rfl ?_
  refine go_aload_n (q := 77) (gDec iX11_setSide_ok 42 rfl) rfl rfl rfl ?_
  refine go_getr (r' := 377) (q := 80) fX11_9 (gDec iX11_setSide_ok 43 rfl) rfl (by decide) rfl ?_
  refine go_iload (q := 82) (gDec iX11_setSide_ok 44 rfl) rfl rfl ?_
  refine go_iconst (v := nI 1) (q := 83) (gDec iX11_setSide_ok 45 rfl) (by decide) rfl ?_
  refine go_callS (n2 := 0) (q := 86) kX11_135 (ctX11_sideAt (b := 2 * i + j) (w := 1) (by omega)) (gDec iX11_setSide_ok 46 rfl) rfl rfl (Nat.le_of_ble_eq_true rfl) rfl (gFit_rm (by decide) (by decide)) rfl ?_
  refine go_top (v' := nI (196 + 96 * i + (77 + 4 * j + 1))) (congrArg nI (by omega)) ?_
  refine go_iconst (v := (-1)) (q := 87) (gDec iX11_setSide_ok 47 rfl) (by decide) rfl ?_
  refine go_iastN (q := 88) (gDec iX11_setSide_ok 48 rfl) rfl (by decide) (by omega) (by decide) rfl ?_
  refine go_iload (q := 90) (gDec iX11_setSide_ok 49 rfl) rfl rfl ?_
  exact go_ireturn (gDec iX11_setSide_ok 50 rfl) rfl rfl rfl rfl (by decide)
theorem mt_setSide {ρ : gST} {s : Nat → Int32} {i j : Nat} {v : Int32} (hC : gCI ρ) (hM : gMR ρ s) (hi : i < gNg ρ) (hj : j < 2) (h2 : -200 ≤ v.toInt ∧ v.toInt ≤ 400) :
    gCI (gPut (gPut ρ 15 (i * 2 + j) v) 17 (i * 2 + j) (-1)) ∧ gMR (gPut (gPut ρ 15 (i * 2 + j) v) 17 (i * 2 + j) (-1)) (upd (upd s (196 + 96 * i + (77 + 4 * j + 0)) v) (196 + 96 * i + (77 + 4 * j + 1)) (-1)) := by
  have hW := hC.dw
  have h24 := hW.ng24
  obtain ⟨τ', hτ⟩ : ∃ τ', τ' = gPut (gPut ρ 15 (i * 2 + j) v) 17 (i * 2 + j) (-1) := ⟨_, rfl⟩
  have ho : ∀ k, k ≠ 15 → k ≠ 17 → τ'.1 k = ρ.1 k := fun k q1 q2 => by rw [hτ, gPut_ne _ _ _ q2, gPut_ne _ _ _ q1]
  have e15 : ∀ a, τ'.1 15 a = if a = i * 2 + j then v else ρ.1 15 a := fun a => by rw [hτ, gPut_ne _ _ _ (by decide), gPut_s, uN]
  have e17 : ∀ a, τ'.1 17 a = if a = i * 2 + j then -1 else ρ.1 17 a := fun a => by rw [hτ, gPut_s, uN, gPut_ne _ _ _ (by decide)]
  have el : ∀ a, gLe τ' a = if a = i * 2 + j then none else gLe ρ a := fun a => by
    unfold gLe
    rw [e17]
    split
    · rfl
    · rfl
  rw [← hτ]
  have eng : gNg τ' = gNg ρ := by unfold gNg; rw [ho 2 (by decide) (by decide)]
  refine ⟨⟨⟨?_, ?_, ?_, ?_, ?_, ?_, ?_⟩, ⟨?_, ?_, ?_⟩, ?_, ⟨?_, ?_⟩, ?_, ?_⟩, ?_⟩
  · rw [ho 2 (by decide) (by decide)]; exact hW.1
  · rw [ho 6 (by decide) (by decide)]; exact hW.2.1
  · rw [ho 8 (by decide) (by decide)]; exact hW.2.2.1
  · intro a ha
    rw [e17]
    split
    · decide
    · exact hW.2.2.2.1 a ha
  · rw [ho 22 (by decide) (by decide)]; exact hW.2.2.2.2.1
  · rw [ho 24 (by decide) (by decide)]; exact hW.2.2.2.2.2.1
  · rw [ho 31 (by decide) (by decide)]; exact hW.2.2.2.2.2.2
  · rw [eng]
    intro a b ha hb
    rw [el] at hb
    split at hb
    · cases hb
    · exact hC.lw.1 a b ha hb
  · rw [eng]
    intro a ha
    refine gEn_del (fun a => ?_) 47 a (hC.lw.2.1 a ha)
    rw [el]
    split
    · exact Or.inr rfl
    · exact Or.inl rfl
  · rw [eng]
    intro a ha ha2
    rw [el, if_neg (by omega)]
    exact hC.lw.2.2 a ha ha2
  · exact hC.po.c (ho 2 (by decide) (by decide)) (ho 6 (by decide) (by decide)) (ho 8 (by decide) (by decide)) (ho 10 (by decide) (by decide)) (ho 12 (by decide) (by decide))
  · rw [eng, ho 4 (by decide) (by decide)]; exact hC.gw.1
  · rw [eng, ho 6 (by decide) (by decide), ho 31 (by decide) (by decide), ho 22 (by decide) (by decide), ho 24 (by decide) (by decide)]
    intro g hg hg2
    obtain ⟨q1, q2, q3, q4, q5⟩ := hC.gw.2 g hg hg2
    exact ⟨q1, q2, q3, q4, fun t ht => by rw [e15, if_neg (by omega)]; exact q5 t ht⟩
  · exact hC.sw.c (ho 2 (by decide) (by decide)) (ho 31 (by decide) (by decide)) (ho 33 (by decide) (by decide)) (ho 35 (by decide) (by decide))
  · exact hC.kw.c (ho 26 (by decide) (by decide)) (ho 28 (by decide) (by decide)) (ho 20 (by decide) (by decide)) (ho 1 (by decide) (by decide))
  · refine hM.upd (ho 1 (by decide) (by decide)) (ho 2 (by decide) (by decide)) (ho 20 (by decide) (by decide)) (ho 26 (by decide) (by decide)) (ho 28 (by decide) (by decide)) (fun x hx => by rw [uN, if_neg (by omega), uN, if_neg (by omega)]) (fun g hg hG => ?_)
    by_cases hgi : g = i
    · subst hgi
      refine hG.new_sid hW (by omega) (ho 6 (by decide) (by decide)) (ho 8 (by decide) (by decide)) (ho 10 (by decide) (by decide)) (ho 12 (by decide) (by decide)) (ho 22 (by decide) (by decide)) (ho 24 (by decide) (by decide)) (ho 31 (by decide) (by decide)) (ho 33 (by decide) (by decide)) (ho 35 (by decide) (by decide)) (ho 4 (by decide) (by decide))
        (fun x q1 q2 q3 => by rw [uN, if_neg (by omega), uN, if_neg (by omega)]) (fun t ht => ?_)
      obtain ⟨p1, p2, p3⟩ := hG.2.2.2.1 t ht
      by_cases htj : t = j
      · subst htj
        refine ⟨?_, ?_, fun b hb => ?_⟩
        · rw [uN, if_neg (by omega), uN, if_pos rfl, e15, if_pos rfl]
        · rw [uN, if_pos rfl, el, if_pos rfl]; rfl
        · rw [el, if_pos rfl] at hb; cases hb
      · rw [el, if_neg (by omega), e15, if_neg (by omega), ho 19 (by decide) (by decide)]
        refine ⟨?_, ?_, fun b hb => ?_⟩
        · rw [uN, if_neg (by omega), uN, if_neg (by omega)]; exact p1
        · rw [uN, if_neg (by omega), uN, if_neg (by omega)]; exact p2
        · rw [uN, if_neg (by omega), uN, if_neg (by omega), uN, if_neg (by omega), uN, if_neg (by omega)]; exact p3 b hb
    · exact hG.same hW (by omega) (fun x q1 q2 => by rw [uN, if_neg (by omega), uN, if_neg (by omega)]) (congrFun (ho 4 (by decide) (by decide)) _) (congrFun (ho 6 (by decide) (by decide)) _) (fun c _ => congrFun (ho 8 (by decide) (by decide)) _) (fun c _ => congrFun (ho 10 (by decide) (by decide)) _) (fun c _ => congrFun (ho 12 (by decide) (by decide)) _)
        (fun t ht => by rw [e15, if_neg (by omega)]) (fun t ht => by rw [e17, if_neg (by omega)]) (fun t _ => congrFun (ho 19 (by decide) (by decide)) _) (congrFun (ho 22 (by decide) (by decide)) _) (congrFun (ho 24 (by decide) (by decide)) _) (congrFun (ho 31 (by decide) (by decide)) _) (fun k _ => congrFun (ho 33 (by decide) (by decide)) _) (fun k _ => congrFun (ho 35 (by decide) (by decide)) _)
theorem gOK.ch {κ : gK} {m : gM} {args : List Value} {σ τ τ' σ' : gST} {o : gO} {l : List String} {x : Int32} (h : gAll τ σ) (hc : gCt κ m 9 args σ o σ' 0) (hm : gCI τ' ∧ gMR τ' (σ'.1 377)) (hk : ∀ k, k = 0 ∨ 36 ≤ k → τ'.1 k = (gRem τ).1 k) (hg : gNg τ ≤ gNg τ')
    (hs : ∀ k, k ≠ 377 → σ'.1 k = (gChg (gPut σ 376 5 0) (nA (τ.1 71 2))).1 k) (h2 : σ'.2 = σ.2) : gOK κ m args σ o l (rI x, τ') := by
  obtain ⟨q1, q2, q3⟩ := h.chg hm.1 hm.2 hk hg hs h2
  exact ⟨σ', hc, q1, q2, q3⟩
theorem gRem_ci {τ : gST} (h : gCI τ) : gCI (gRem τ) := (gRem_1 τ).ci h
theorem gRem_mr {τ : gST} {s : Nat → Int32} (h : gCI τ) (hM : gMR τ s) : gMR (gRem τ) s := (gRem_1 τ).mr h.dw hM
theorem gRem_ng (τ : gST) : gNg (gRem τ) = gNg τ := (gRem_1 τ).ng

set_option maxHeartbeats 4000000 in
set_option maxRecDepth 100000 in
theorem ok_setSide {κ : gK} {σ τ : gST} {g s v : Int32} (h : gAll τ σ) : gOK κ mX11_setSide [.ref (κ.2.1 + 376), .int g, .int s, .int v] σ (rI (aI (fSetSide τ g s v).1)) kOA (fSetSide τ g s v) := by
  have hC := h.ci
  have hM := h.mr
  have hW := hC.dw
  have h24 := hW.ng24
  by_cases h1 : gInS τ g s
  · by_cases h2 : -200 ≤ v.toInt ∧ v.toInt ≤ 400
    · have hs : fSetSide τ g s v = _ := (if_pos h1).trans (if_pos h2)
      rw [hs]
      obtain ⟨i, j, hi, hj, rfl, rfl⟩ := gInS.ex h1
      rw [nA_nI (n := i) (by omega), nA_nI (n := j) (by omega)]
      refine gOK.ch h (okw_setSide h hi hj h1 h2) (mt_setSide (gRem_ci hC) (gRem_mr hC hM) (by rw [gRem_ng]; exact hi) hj h2) (fun k hk => ?_) (by rw [show gNg (gPut (gPut (gRem τ) 15 (i * 2 + j) v) 17 (i * 2 + j) (-1)) = gNg (gRem τ) from rfl, gRem_ng]; exact Nat.le_refl _) (fun k hk => ?_) rfl
      · rw [gPut_ne _ _ _ (by omega), gPut_ne _ _ _ (by omega)]
      · rw [gPut_ne _ _ _ hk, gPut_ne _ _ _ hk]
    · have hs : fSetSide τ g s v = _ := (if_pos h1).trans (if_neg h2)
      rw [hs]
      refine gOK.rd h rfl ?_
      refine ct_of (by decide +kernel) rfl (Nat.le_of_ble_eq_true rfl) rfl ?_
      refine go_aload_n (q := 1) (gDec iX11_setSide_ok 0 rfl) rfl rfl rfl ?_
      refine go_aload_n (q := 2) (gDec iX11_setSide_ok 1 rfl) rfl rfl rfl ?_
      refine go_iload_n (q := 3) (gDec iX11_setSide_ok 2 rfl) rfl rfl rfl ?_
      refine go_iload_n (q := 4) (gDec iX11_setSide_ok 3 rfl) rfl rfl rfl ?_
      refine go_callV (n2 := 0) (q := 7) kX11_144 (ctX11_isSide (τ := τ) hW hM) (gDec iX11_setSide_ok 4 rfl) rfl rfl (by decide) rfl rfl rfl (Nat.le_of_ble_eq_true rfl) rfl (gFit_rm (by decide) (by decide)) rfl ?_
      refine go_top (v' := 1) (if_pos h1) ?_
      refine go_if_ne (t := 14) (q := 10) (gDec iX11_setSide_ok 5 rfl) (by decide) rfl (fun c7 => ?_) (fun c7 => False.elim (absurd c7 (by decide)))
      refine go_iload_n (q := 15) (gDec iX11_setSide_ok 8 rfl) rfl rfl rfl ?_
      refine go_i2l (q := 16) (gDec iX11_setSide_ok 9 rfl) rfl ?_
      refine go_sipush (v := (-200)) (q := 19) (gDec iX11_setSide_ok 10 rfl) (by decide) rfl ?_
      refine go_sipush (v := nI 400) (q := 22) (gDec iX11_setSide_ok 11 rfl) (by decide) rfl ?_
      refine go_callS (n2 := 0) (q := 25) kX11_57 ctX11_in (gDec iX11_setSide_ok 12 rfl) rfl rfl (Nat.le_of_ble_eq_true rfl) rfl (gFit_rm (by decide) (by decide)) rfl ?_
      refine go_top (v' := 0) (gWi_f (by (try rw [i2l_toInt]); exact h2)) ?_
      refine go_if_ne (t := 32) (q := 28) (gDec iX11_setSide_ok 13 rfl) (by decide) rfl (fun c25 => False.elim (c25 rfl)) (fun c25 => ?_)
      refine go_iconst (v := nI 2) (q := 29) (gDec iX11_setSide_ok 14 rfl) (by decide) rfl ?_
      refine go_goto (t := 33) (gDec iX11_setSide_ok 15 rfl) (by decide) ?_
      refine go_puti (q := 36) fX11_54 gft11 (gDec iX11_setSide_ok 17 rfl) rfl (by decide) rfl rfl rfl rfl ?_
      refine go_aload_n (q := 37) (gDec iX11_setSide_ok 18 rfl) rfl rfl rfl ?_
      refine go_geti (q := 40) fX11_54 (gDec iX11_setSide_ok 19 rfl) rfl (by decide) rfl ?_
      refine go_top (v' := nI 2) rfl ?_
      refine go_if_le (t := 45) (q := 43) (gDec iX11_setSide_ok 20 rfl) (by decide) rfl (fun c40 => False.elim (absurd c40 (by decide))) (fun c40 => ?_)
      refine go_iconst (v := nI 0) (q := 44) (gDec iX11_setSide_ok 21 rfl) (by decide) rfl ?_
      exact go_ireturn (gDec iX11_setSide_ok 22 rfl) rfl rfl rfl (congrArg (gPut σ 376 5) xc_OA_A) (by decide)
  · have hs : fSetSide τ g s v = _ := if_neg h1
    rw [hs]
    refine gOK.rd h rfl ?_
    refine ct_of (by decide +kernel) rfl (Nat.le_of_ble_eq_true rfl) rfl ?_
    refine go_aload_n (q := 1) (gDec iX11_setSide_ok 0 rfl) rfl rfl rfl ?_
    refine go_aload_n (q := 2) (gDec iX11_setSide_ok 1 rfl) rfl rfl rfl ?_
    refine go_iload_n (q := 3) (gDec iX11_setSide_ok 2 rfl) rfl rfl rfl ?_
    refine go_iload_n (q := 4) (gDec iX11_setSide_ok 3 rfl) rfl rfl rfl ?_
    refine go_callV (n2 := 0) (q := 7) kX11_144 (ctX11_isSide (τ := τ) hW hM) (gDec iX11_setSide_ok 4 rfl) rfl rfl (by decide) rfl rfl rfl (Nat.le_of_ble_eq_true rfl) rfl (gFit_rm (by decide) (by decide)) rfl ?_
    refine go_top (v' := 0) (if_neg h1) ?_
    refine go_if_ne (t := 14) (q := 10) (gDec iX11_setSide_ok 5 rfl) (by decide) rfl (fun c7 => False.elim (c7 rfl)) (fun c7 => ?_)
    refine go_iconst (v := nI 1) (q := 11) (gDec iX11_setSide_ok 6 rfl) (by decide) rfl ?_
    refine go_goto (t := 33) (gDec iX11_setSide_ok 7 rfl) (by decide) ?_
    refine go_puti (q := 36) fX11_54 gft11 (gDec iX11_setSide_ok 17 rfl) rfl (by decide) rfl rfl rfl rfl ?_
    refine go_aload_n (q := 37) (gDec iX11_setSide_ok 18 rfl) rfl rfl rfl ?_
    refine go_geti (q := 40) fX11_54 (gDec iX11_setSide_ok 19 rfl) rfl (by decide) rfl ?_
    refine go_top (v' := nI 1) rfl ?_
    refine go_if_le (t := 45) (q := 43) (gDec iX11_setSide_ok 20 rfl) (by decide) rfl (fun c40 => False.elim (absurd c40 (by decide))) (fun c40 => ?_)
    refine go_iconst (v := nI 0) (q := 44) (gDec iX11_setSide_ok 21 rfl) (by decide) rfl ?_
    exact go_ireturn (gDec iX11_setSide_ok 22 rfl) rfl rfl rfl (congrArg (gPut σ 376 5) xc_OA_O) (by decide)
