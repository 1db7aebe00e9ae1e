set_option maxHeartbeats 4000000 in
set_option maxRecDepth 100000 in
theorem okw_setClasss {κ : gK} {σ τ : gST} {i : Nat} {c : Int32} (h : gAll τ σ) (hi : i < gNg τ) (h1 : gInG τ (nI i)) (h2 : -1 ≤ c.toInt ∧ c.toInt ≤ 5) : gCt κ mX11_setClass 9 [.ref (κ.2.1 + 376), .int (nI i), .int 0, .int c] σ (rI (τ.1 24 i)) (gPut (gChg (gPut σ 376 5 0) (nA (τ.1 71 2))) 377 (196 + 96 * i + (85 + 1)) c) 0 := by
  have hC := h.ci
  have hM := h.mr
  have hW := hC.dw
  have h24 := hW.ng24
  have hM2 : gMR τ ((gChg (gPut σ 376 5 0) (nA (τ.1 71 2))).1 377) := hM
  refine ct_of (by decide +kernel) rfl (Nat.le_of_ble_eq_true rfl) rfl ?_
  refine go_aload_n (q := 1) (gDec iX11_setClass_ok 0 rfl) rfl rfl rfl ?_
  refine go_aload_n (q := 2) (gDec iX11_setClass_ok 1 rfl) rfl rfl rfl ?_
  refine go_iload_n (q := 3) (gDec iX11_setClass_ok 2 rfl) rfl rfl rfl ?_
  refine go_callV (n2 := 0) (q := 6) kX11_65 (ctX11_isGlyph (τ := τ) hW hM) (gDec iX11_setClass_ok 3 rfl) rfl rfl (by decide) rfl rfl rfl (Nat.le_of_ble_eq_true rfl) rfl (gFit_rm (by decide) (by decide)) rfl ?_
  refine go_top (v' := 1) (gWi_t (by (try rw [i2l_toInt]); exact h1)) ?_
  refine go_if_ne (t := 13) (q := 9) (gDec iX11_setClass_ok 4 rfl) (by decide) rfl (fun c6 => ?_) (fun c6 => False.elim (absurd c6 (by decide)))
  refine go_iload_n (q := 14) (gDec iX11_setClass_ok 7 rfl) rfl rfl rfl ?_
  refine go_i2l (q := 15) (gDec iX11_setClass_ok 8 rfl) rfl ?_
  refine go_iconst (v := (-1)) (q := 16) (gDec iX11_setClass_ok 9 rfl) (by decide) rfl ?_
  refine go_iconst (v := 5) (q := 17) (gDec iX11_setClass_ok 10 rfl) (by decide) rfl ?_
  refine go_callS (n2 := 0) (q := 20) kX11_57 ctX11_in (gDec iX11_setClass_ok 11 rfl) rfl rfl (Nat.le_of_ble_eq_true rfl) rfl (gFit_rm (by decide) (by decide)) rfl ?_
  refine go_top (v' := 1) (gWi_t (by (try rw [i2l_toInt]); exact h2)) ?_
  refine go_if_ne (t := 27) (q := 23) (gDec iX11_setClass_ok 12 rfl) (by decide) rfl (fun c20 => ?_) (fun c20 => False.elim (absurd c20 (by decide)))
  refine go_iconst (v := nI 0) (q := 28) (gDec iX11_setClass_ok 15 rfl) (by decide) rfl ?_
  refine go_puti (q := 31) fX11_54 gft11 (gDec iX11_setClass_ok 16 rfl) rfl (by decide) rfl rfl rfl rfl ?_
  refine go_aload_n (q := 32) (gDec iX11_setClass_ok 17 rfl) rfl rfl rfl ?_
  refine go_geti (q := 35) fX11_54 (gDec iX11_setClass_ok 18 rfl) rfl (by decide) rfl ?_
  refine go_top (v' := nI 0) rfl ?_
  refine go_if_le (t := 40) (q := 38) (gDec iX11_setClass_ok 19 rfl) (by decide) rfl (fun c35 => ?_) (fun c35 => False.elim (c35 (by decide)))
  refine go_aload_n (q := 41) (gDec iX11_setClass_ok 22 rfl) rfl rfl rfl ?_
  refine go_callV (n2 := 0) (q := 44) kX11_89 (ctX11_change (n := (nA (τ.1 71 2))) h.hr.1 h.n8) (gDec iX11_setClass_ok 23 rfl) rfl rfl (by decide) rfl rfl rfl (Nat.le_of_ble_eq_true rfl) rfl (gFit_rm (by decide) (by decide)) rfl ?_
  refine go_w (show _ = gChg (gPut σ 376 5 0) (nA (τ.1 71 2)) from rfl) ?_
  refine go_iload_n (q := 45) (gDec iX11_setClass_ok 24 rfl) rfl rfl rfl ?_
  refine go_bipush (v := nI 85) (q := 47) (gDec iX11_setClass_ok 25 rfl) (by decide) rfl ?_
  refine go_iload_n (q := 48) (gDec iX11_setClass_ok 26 rfl) rfl rfl rfl ?_
  refine go_if_eq (t := 55) (q := 51) (gDec iX11_setClass_ok 27 rfl) (by decide) rfl (fun c48 => ?_) (fun c48 => False.elim (c48 rfl))
  refine go_iconst (v := nI 1) (q := 56) (gDec iX11_setClass_ok 30 rfl) (by decide) rfl ?_
  refine go_iaddN (c := 85 + 1) (q := 57) (gDec iX11_setClass_ok 31 rfl) rfl rfl ?_
  refine go_callS (n2 := 0) (q := 60) kX11_61 (ctX11_at (g := i) (w := 85 + 1)) (gDec iX11_setClass_ok 32 rfl) rfl rfl (Nat.le_of_ble_eq_true rfl) rfl (gFit_rm (by decide) (by decide)) rfl ?_
  refine go_istore (q := 62) (gDec iX11_setClass_ok 33 rfl) (by decide) rfl ?_
  refine go_aload_n (q := 63) (gDec iX11_setClass_ok 34 rfl) rfl rfl rfl ?_
  refine go_getr (r' := 377) (q := 66) fX11_9 (gDec iX11_setClass_ok 35 rfl) rfl (by decide) rfl ?_
  refine go_iload (q := 68) (gDec iX11_setClass_ok 36 rfl) rfl rfl ?_
  refine go_ialdN (q := 69) (gDec iX11_setClass_ok 37 rfl) rfl (by decide) (by omega) (by decide) rfl ?_
  refine go_top (v' := τ.1 24 i) (hM2.sc hi (by omega)) ?_
  refine go_istore (q := 71) (gDec iX11_setClass_ok 38 rfl) (by decide) rfl ?_
  refine go_aload_n (q := 72) (gDec iX11_setClass_ok 39 rfl) rfl rfl rfl ?_
  refine go_getr (r' := 377) (q := 75) fX11_9 (gDec iX11_setClass_ok 40 rfl) rfl (by decide) rfl ?_
  refine go_iload (q := 77) (gDec iX11_setClass_ok 41 rfl) rfl rfl ?_
  refine go_iload_n (q := 78) (gDec iX11_setClass_ok 42 rfl) rfl rfl rfl ?_
  refine go_iastN (q := 79) (gDec iX11_setClass_ok 43 rfl) rfl (by decide) (by omega) (by decide) rfl ?_
  refine go_iload (q := 81) (gDec iX11_setClass_ok 44 rfl) rfl rfl ?_
  exact go_ireturn (gDec iX11_setClass_ok 45 rfl) rfl rfl rfl rfl (by decide)
theorem mt_setClasss {ρ : gST} {s : Nat → Int32} {i : Nat} {c : Int32} (hC : gCI ρ) (hM : gMR ρ s) (hi : i < gNg ρ) (h2 : -1 ≤ c.toInt ∧ c.toInt ≤ 5) : gCI (gPut ρ 24 i c) ∧ gMR (gPut ρ 24 i c) (upd s (196 + 96 * i + (85 + 1)) c) := by
  have hW := hC.dw
  have h24 := hW.ng24
  obtain ⟨τ', hτ⟩ : ∃ τ', τ' = gPut ρ 24 i c := ⟨_, rfl⟩
  have ho : ∀ k, k ≠ 24 → τ'.1 k = ρ.1 k := fun k q1 => by rw [hτ, gPut_ne _ _ _ q1]
  have ea : ∀ a, τ'.1 24 a = if a = i then c else ρ.1 24 a := fun a => by rw [hτ, gPut_s, uN]
  rw [← hτ]
  have eng : gNg τ' = gNg ρ := by unfold gNg; rw [ho 2 (by decide)]
  refine ⟨⟨⟨?_, ?_, ?_, ?_, ?_, ?_, ?_⟩, ?_, ?_, ⟨?_, ?_⟩, ?_, ?_⟩, ?_⟩
  · rw [ho 2 (by decide)]; exact hW.1
  · rw [ho 6 (by decide)]; exact hW.2.1
  · rw [ho 8 (by decide)]; exact hW.2.2.1
  · rw [ho 17 (by decide)]; exact hW.2.2.2.1
  · rw [ho 22 (by decide)]; exact hW.2.2.2.2.1
  · intro a ha; rw [ea]; split; exact h2; exact hW.2.2.2.2.2.1 a ha
  · rw [ho 31 (by decide)]; exact hW.2.2.2.2.2.2
  · exact hC.lw.c (ho 2 (by decide)) (ho 17 (by decide))
  · exact hC.po.c (ho 2 (by decide)) (ho 6 (by decide)) (ho 8 (by decide)) (ho 10 (by decide)) (ho 12 (by decide))
  · rw [eng, ho 4 (by decide)]; exact hC.gw.1
  · rw [eng, ho 6 (by decide), ho 31 (by decide), ho 15 (by decide), ho 22 (by decide)]
    intro g hg hg2
    rw [ea, if_neg (by omega)]
    exact hC.gw.2 g hg hg2
  · exact hC.sw.c (ho 2 (by decide)) (ho 31 (by decide)) (ho 33 (by decide)) (ho 35 (by decide))
  · exact hC.kw.c (ho 26 (by decide)) (ho 28 (by decide)) (ho 20 (by decide)) (ho 1 (by decide))
  · refine hM.upd (ho 1 (by decide)) (ho 2 (by decide)) (ho 20 (by decide)) (ho 26 (by decide)) (ho 28 (by decide)) (fun x hx => by rw [uN, if_neg (by omega)]) (fun g hg hG => ?_)
    by_cases hgi : g = i
    · subst hgi
      refine hG.new_cls hW (by omega) (ho 6 (by decide)) (ho 8 (by decide)) (ho 10 (by decide)) (ho 12 (by decide)) (ho 15 (by decide)) (ho 17 (by decide)) (ho 19 (by decide)) (ho 31 (by decide)) (ho 33 (by decide)) (ho 35 (by decide)) (ho 4 (by decide)) (fun x q1 q2 q3 => by rw [uN, if_neg (by omega)]) ?_ ?_
      · rw [uN, if_neg (by omega), ho 22 (by decide)]; exact hG.2.2.2.2.1.1
      · rw [uN, if_pos (by omega), ea, if_pos rfl]
    · exact hG.same hW (by omega) (fun x q1 q2 => by rw [uN, if_neg (by omega)]) (congrFun (ho 4 (by decide)) _) (congrFun (ho 6 (by decide)) _) (fun _ _ => congrFun (ho 8 (by decide)) _) (fun _ _ => congrFun (ho 10 (by decide)) _) (fun _ _ => congrFun (ho 12 (by decide)) _) (fun _ _ => congrFun (ho 15 (by decide)) _) (fun _ _ => congrFun (ho 17 (by decide)) _) (fun _ _ => congrFun (ho 19 (by decide)) _) (congrFun (ho 22 (by decide)) _) (by rw [ea, if_neg hgi]) (congrFun (ho 31 (by decide)) _) (fun _ _ => congrFun (ho 33 (by decide)) _) (fun _ _ => congrFun (ho 35 (by decide)) _)

set_option maxHeartbeats 4000000 in
set_option maxRecDepth 100000 in
theorem okw_setClassf {κ : gK} {σ τ : gST} {i : Nat} {c : Int32} (h : gAll τ σ) (hi : i < gNg τ) (h1 : gInG τ (nI i)) (h2 : -1 ≤ c.toInt ∧ c.toInt ≤ 5) : gCt κ mX11_setClass 9 [.ref (κ.2.1 + 376), .int (nI i), .int 1, .int c] σ (rI (τ.1 22 i)) (gPut (gChg (gPut σ 376 5 0) (nA (τ.1 71 2))) 377 (196 + 96 * i + (85 + 0)) c) 0 := by
  have hC := h.ci
  have hM := h.mr
  have hW := hC.dw
  have h24 := hW.ng24
  have hM2 : gMR τ ((gChg (gPut σ 376 5 0) (nA (τ.1 71 2))).1 377) := hM
  refine ct_of (by decide +kernel) rfl (Nat.le_of_ble_eq_true rfl) rfl ?_
  refine go_aload_n (q := 1) (gDec iX11_setClass_ok 0 rfl) rfl rfl rfl ?_
  refine go_aload_n (q := 2) (gDec iX11_setClass_ok 1 rfl) rfl rfl rfl ?_
  refine go_iload_n (q := 3) (gDec iX11_setClass_ok 2 rfl) rfl rfl rfl ?_
  refine go_callV (n2 := 0) (q := 6) kX11_65 (ctX11_isGlyph (τ := τ) hW hM) (gDec iX11_setClass_ok 3 rfl) rfl rfl (by decide) rfl rfl rfl (Nat.le_of_ble_eq_true rfl) rfl (gFit_rm (by decide) (by decide)) rfl ?_
  refine go_top (v' := 1) (gWi_t (by (try rw [i2l_toInt]); exact h1)) ?_
  refine go_if_ne (t := 13) (q := 9) (gDec iX11_setClass_ok 4 rfl) (by decide) rfl (fun c6 => ?_) (fun c6 => False.elim (absurd c6 (by decide)))
  refine go_iload_n (q := 14) (gDec iX11_setClass_ok 7 rfl) rfl rfl rfl ?_
  refine go_i2l (q := 15) (gDec iX11_setClass_ok 8 rfl) rfl ?_
  refine go_iconst (v := (-1)) (q := 16) (gDec iX11_setClass_ok 9 rfl) (by decide) rfl ?_
  refine go_iconst (v := 5) (q := 17) (gDec iX11_setClass_ok 10 rfl) (by decide) rfl ?_
  refine go_callS (n2 := 0) (q := 20) kX11_57 ctX11_in (gDec iX11_setClass_ok 11 rfl) rfl rfl (Nat.le_of_ble_eq_true rfl) rfl (gFit_rm (by decide) (by decide)) rfl ?_
  refine go_top (v' := 1) (gWi_t (by (try rw [i2l_toInt]); exact h2)) ?_
  refine go_if_ne (t := 27) (q := 23) (gDec iX11_setClass_ok 12 rfl) (by decide) rfl (fun c20 => ?_) (fun c20 => False.elim (absurd c20 (by decide)))
  refine go_iconst (v := nI 0) (q := 28) (gDec iX11_setClass_ok 15 rfl) (by decide) rfl ?_
  refine go_puti (q := 31) fX11_54 gft11 (gDec iX11_setClass_ok 16 rfl) rfl (by decide) rfl rfl rfl rfl ?_
  refine go_aload_n (q := 32) (gDec iX11_setClass_ok 17 rfl) rfl rfl rfl ?_
  refine go_geti (q := 35) fX11_54 (gDec iX11_setClass_ok 18 rfl) rfl (by decide) rfl ?_
  refine go_top (v' := nI 0) rfl ?_
  refine go_if_le (t := 40) (q := 38) (gDec iX11_setClass_ok 19 rfl) (by decide) rfl (fun c35 => ?_) (fun c35 => False.elim (c35 (by decide)))
  refine go_aload_n (q := 41) (gDec iX11_setClass_ok 22 rfl) rfl rfl rfl ?_
  refine go_callV (n2 := 0) (q := 44) kX11_89 (ctX11_change (n := (nA (τ.1 71 2))) h.hr.1 h.n8) (gDec iX11_setClass_ok 23 rfl) rfl rfl (by decide) rfl rfl rfl (Nat.le_of_ble_eq_true rfl) rfl (gFit_rm (by decide) (by decide)) rfl ?_
  refine go_w (show _ = gChg (gPut σ 376 5 0) (nA (τ.1 71 2)) from rfl) ?_
  refine go_iload_n (q := 45) (gDec iX11_setClass_ok 24 rfl) rfl rfl rfl ?_
  refine go_bipush (v := nI 85) (q := 47) (gDec iX11_setClass_ok 25 rfl) (by decide) rfl ?_
  refine go_iload_n (q := 48) (gDec iX11_setClass_ok 26 rfl) rfl rfl rfl ?_
  refine go_if_eq (t := 55) (q := 51) (gDec iX11_setClass_ok 27 rfl) (by decide) rfl (fun c48 => False.elim (absurd c48 (by decide))) (fun c48 => ?_)
  refine go_iconst (v := nI 0) (q := 52) (gDec iX11_setClass_ok 28 rfl) (by decide) rfl ?_
  refine go_goto (t := 56) (gDec iX11_setClass_ok 29 rfl) (by decide) ?_
  refine go_iaddN (c := 85 + 0) (q := 57) (gDec iX11_setClass_ok 31 rfl) rfl rfl ?_
  refine go_callS (n2 := 0) (q := 60) kX11_61 (ctX11_at (g := i) (w := 85 + 0)) (gDec iX11_setClass_ok 32 rfl) rfl rfl (Nat.le_of_ble_eq_true rfl) rfl (gFit_rm (by decide) (by decide)) rfl ?_
  refine go_istore (q := 62) (gDec iX11_setClass_ok 33 rfl) (by decide) rfl ?_
  refine go_aload_n (q := 63) (gDec iX11_setClass_ok 34 rfl) rfl rfl rfl ?_
  refine go_getr (r' := 377) (q := 66) fX11_9 (gDec iX11_setClass_ok 35 rfl) rfl (by decide) rfl ?_
  refine go_iload (q := 68) (gDec iX11_setClass_ok 36 rfl) rfl rfl ?_
  refine go_ialdN (q := 69) (gDec iX11_setClass_ok 37 rfl) rfl (by decide) (by omega) (by decide) rfl ?_
  refine go_top (v' := τ.1 22 i) (hM2.fc hi (by omega)) ?_
  refine go_istore (q := 71) (gDec iX11_setClass_ok 38 rfl) (by decide) rfl ?_
  refine go_aload_n (q := 72) (gDec iX11_setClass_ok 39 rfl) rfl rfl rfl ?_
  refine go_getr (r' := 377) (q := 75) fX11_9 (gDec iX11_setClass_ok 40 rfl) rfl (by decide) rfl ?_
  refine go_iload (q := 77) (gDec iX11_setClass_ok 41 rfl) rfl rfl ?_
  refine go_iload_n (q := 78) (gDec iX11_setClass_ok 42 rfl) rfl rfl rfl ?_
  refine go_iastN (q := 79) (gDec iX11_setClass_ok 43 rfl) rfl (by decide) (by omega) (by decide) rfl ?_
  refine go_iload (q := 81) (gDec iX11_setClass_ok 44 rfl) rfl rfl ?_
  exact go_ireturn (gDec iX11_setClass_ok 45 rfl) rfl rfl rfl rfl (by decide)
theorem mt_setClassf {ρ : gST} {s : Nat → Int32} {i : Nat} {c : Int32} (hC : gCI ρ) (hM : gMR ρ s) (hi : i < gNg ρ) (h2 : -1 ≤ c.toInt ∧ c.toInt ≤ 5) : gCI (gPut ρ 22 i c) ∧ gMR (gPut ρ 22 i c) (upd s (196 + 96 * i + (85 + 0)) c) := by
  have hW := hC.dw
  have h24 := hW.ng24
  obtain ⟨τ', hτ⟩ : ∃ τ', τ' = gPut ρ 22 i c := ⟨_, rfl⟩
  have ho : ∀ k, k ≠ 22 → τ'.1 k = ρ.1 k := fun k q1 => by rw [hτ, gPut_ne _ _ _ q1]
  have ea : ∀ a, τ'.1 22 a = if a = i then c else ρ.1 22 a := fun a => by rw [hτ, gPut_s, uN]
  rw [← hτ]
  have eng : gNg τ' = gNg ρ := by unfold gNg; rw [ho 2 (by decide)]
  refine ⟨⟨⟨?_, ?_, ?_, ?_, ?_, ?_, ?_⟩, ?_, ?_, ⟨?_, ?_⟩, ?_, ?_⟩, ?_⟩
  · rw [ho 2 (by decide)]; exact hW.1
  · rw [ho 6 (by decide)]; exact hW.2.1
  · rw [ho 8 (by decide)]; exact hW.2.2.1
  · rw [ho 17 (by decide)]; exact hW.2.2.2.1
  · intro a ha; rw [ea]; split; exact h2; exact hW.2.2.2.2.1 a ha
  · rw [ho 24 (by decide)]; exact hW.2.2.2.2.2.1
  · rw [ho 31 (by decide)]; exact hW.2.2.2.2.2.2
  · exact hC.lw.c (ho 2 (by decide)) (ho 17 (by decide))
  · exact hC.po.c (ho 2 (by decide)) (ho 6 (by decide)) (ho 8 (by decide)) (ho 10 (by decide)) (ho 12 (by decide))
  · rw [eng, ho 4 (by decide)]; exact hC.gw.1
  · rw [eng, ho 6 (by decide), ho 31 (by decide), ho 15 (by decide), ho 24 (by decide)]
    intro g hg hg2
    rw [ea, if_neg (by omega)]
    exact hC.gw.2 g hg hg2
  · exact hC.sw.c (ho 2 (by decide)) (ho 31 (by decide)) (ho 33 (by decide)) (ho 35 (by decide))
  · exact hC.kw.c (ho 26 (by decide)) (ho 28 (by decide)) (ho 20 (by decide)) (ho 1 (by decide))
  · refine hM.upd (ho 1 (by decide)) (ho 2 (by decide)) (ho 20 (by decide)) (ho 26 (by decide)) (ho 28 (by decide)) (fun x hx => by rw [uN, if_neg (by omega)]) (fun g hg hG => ?_)
    by_cases hgi : g = i
    · subst hgi
      refine hG.new_cls hW (by omega) (ho 6 (by decide)) (ho 8 (by decide)) (ho 10 (by decide)) (ho 12 (by decide)) (ho 15 (by decide)) (ho 17 (by decide)) (ho 19 (by decide)) (ho 31 (by decide)) (ho 33 (by decide)) (ho 35 (by decide)) (ho 4 (by decide)) (fun x q1 q2 q3 => by rw [uN, if_neg (by omega)]) ?_ ?_
      · rw [uN, if_pos (by omega), ea, if_pos rfl]
      · rw [uN, if_neg (by omega), ho 24 (by decide)]; exact hG.2.2.2.2.1.2.1
    · exact hG.same hW (by omega) (fun x q1 q2 => by rw [uN, if_neg (by omega)]) (congrFun (ho 4 (by decide)) _) (congrFun (ho 6 (by decide)) _) (fun _ _ => congrFun (ho 8 (by decide)) _) (fun _ _ => congrFun (ho 10 (by decide)) _) (fun _ _ => congrFun (ho 12 (by decide)) _) (fun _ _ => congrFun (ho 15 (by decide)) _) (fun _ _ => congrFun (ho 17 (by decide)) _) (fun _ _ => congrFun (ho 19 (by decide)) _) (by rw [ea, if_neg hgi]) (congrFun (ho 24 (by decide)) _) (congrFun (ho 31 (by decide)) _) (fun _ _ => congrFun (ho 33 (by decide)) _) (fun _ _ => congrFun (ho 35 (by decide)) _)

set_option maxHeartbeats 4000000 in
set_option maxRecDepth 100000 in
theorem ok_setClass {κ : gK} {σ τ : gST} {g b c : Int32} (hb : g01 b) (h : gAll τ σ) : gOK κ mX11_setClass [.ref (κ.2.1 + 376), .int g, .int b, .int c] σ (rI (aI (fSetClass τ g b c).1)) kOA (fSetClass τ g b c) := by
  have hC := h.ci
  have hM := h.mr
  have hW := hC.dw
  have h24 := hW.ng24
  by_cases h1 : gInG τ g
  · by_cases h2 : -1 ≤ c.toInt ∧ c.toInt ≤ 5
    · obtain ⟨i, hi, rfl⟩ := gInG.ex h1
      rcases hb with hb | hb
      · subst hb
        rw [show fSetClass τ (nI i) 0 c = (rI (τ.1 24 (nA (nI i))), gPut (gRem τ) 24 (nA (nI i)) c) from (if_pos h1).trans ((if_pos h2).trans (if_pos rfl))]
        rw [nA_nI (n := i) (by omega)]
        refine gOK.ch h (okw_setClasss h hi h1 h2) (mt_setClasss (gRem_ci hC) (gRem_mr hC hM) (by rw [gRem_ng]; exact hi) h2) (fun k hk => gPut_ne _ _ _ (by omega)) (by rw [show gNg (gPut (gRem τ) 24 i c) = gNg (gRem τ) from rfl, gRem_ng]; exact Nat.le_refl _) (fun k hk => gPut_ne _ _ _ hk) rfl

      · subst hb
        rw [show fSetClass τ (nI i) 1 c = (rI (τ.1 22 (nA (nI i))), gPut (gRem τ) 22 (nA (nI i)) c) from (if_pos h1).trans ((if_pos h2).trans (if_neg (by decide)))]
        rw [nA_nI (n := i) (by omega)]
        refine gOK.ch h (okw_setClassf h hi h1 h2) (mt_setClassf (gRem_ci hC) (gRem_mr hC hM) (by rw [gRem_ng]; exact hi) h2) (fun k hk => gPut_ne _ _ _ (by omega)) (by rw [show gNg (gPut (gRem τ) 22 i c) = gNg (gRem τ) from rfl, gRem_ng]; exact Nat.le_refl _) (fun k hk => gPut_ne _ _ _ hk) rfl

    · have hs : fSetClass τ g b c = _ := (if_pos h1).trans (if_neg h2)
      rw [hs]
      refine gOK.rd h rfl ?_
      refine ct_of (by decide +kernel) rfl (Nat.le_of_ble_eq_true rfl) rfl ?_
      refine go_aload_n (q := 1) (gDec iX11_setClass_ok 0 rfl) rfl rfl rfl ?_
      refine go_aload_n (q := 2) (gDec iX11_setClass_ok 1 rfl) rfl rfl rfl ?_
      refine go_iload_n (q := 3) (gDec iX11_setClass_ok 2 rfl) rfl rfl rfl ?_
      refine go_callV (n2 := 0) (q := 6) kX11_65 (ctX11_isGlyph (τ := τ) hW hM) (gDec iX11_setClass_ok 3 rfl) rfl rfl (by decide) rfl rfl rfl (Nat.le_of_ble_eq_true rfl) rfl (gFit_rm (by decide) (by decide)) rfl ?_
      refine go_top (v' := 1) (gWi_t (by (try rw [i2l_toInt]); exact h1)) ?_
      refine go_if_ne (t := 13) (q := 9) (gDec iX11_setClass_ok 4 rfl) (by decide) rfl (fun c6 => ?_) (fun c6 => False.elim (absurd c6 (by decide)))
      refine go_iload_n (q := 14) (gDec iX11_setClass_ok 7 rfl) rfl rfl rfl ?_
      refine go_i2l (q := 15) (gDec iX11_setClass_ok 8 rfl) rfl ?_
      refine go_iconst (v := (-1)) (q := 16) (gDec iX11_setClass_ok 9 rfl) (by decide) rfl ?_
      refine go_iconst (v := 5) (q := 17) (gDec iX11_setClass_ok 10 rfl) (by decide) rfl ?_
      refine go_callS (n2 := 0) (q := 20) kX11_57 ctX11_in (gDec iX11_setClass_ok 11 rfl) rfl rfl (Nat.le_of_ble_eq_true rfl) rfl (gFit_rm (by decide) (by decide)) rfl ?_
      refine go_top (v' := 0) (gWi_f (by (try rw [i2l_toInt]); exact h2)) ?_
      refine go_if_ne (t := 27) (q := 23) (gDec iX11_setClass_ok 12 rfl) (by decide) rfl (fun c20 => False.elim (c20 rfl)) (fun c20 => ?_)
      refine go_iconst (v := nI 2) (q := 24) (gDec iX11_setClass_ok 13 rfl) (by decide) rfl ?_
      refine go_goto (t := 28) (gDec iX11_setClass_ok 14 rfl) (by decide) ?_
      refine go_puti (q := 31) fX11_54 gft11 (gDec iX11_setClass_ok 16 rfl) rfl (by decide) rfl rfl rfl rfl ?_
      refine go_aload_n (q := 32) (gDec iX11_setClass_ok 17 rfl) rfl rfl rfl ?_
      refine go_geti (q := 35) fX11_54 (gDec iX11_setClass_ok 18 rfl) rfl (by decide) rfl ?_
      refine go_top (v' := nI 2) rfl ?_
      refine go_if_le (t := 40) (q := 38) (gDec iX11_setClass_ok 19 rfl) (by decide) rfl (fun c35 => False.elim (absurd c35 (by decide))) (fun c35 => ?_)
      refine go_iconst (v := nI 0) (q := 39) (gDec iX11_setClass_ok 20 rfl) (by decide) rfl ?_
      exact go_ireturn (gDec iX11_setClass_ok 21 rfl) rfl rfl rfl (congrArg (gPut σ 376 5) xc_OA_A) (by decide)
  · have hs : fSetClass τ g b c = _ := if_neg h1
    rw [hs]
    refine gOK.rd h rfl ?_
    refine ct_of (by decide +kernel) rfl (Nat.le_of_ble_eq_true rfl) rfl ?_
    refine go_aload_n (q := 1) (gDec iX11_setClass_ok 0 rfl) rfl rfl rfl ?_
    refine go_aload_n (q := 2) (gDec iX11_setClass_ok 1 rfl) rfl rfl rfl ?_
    refine go_iload_n (q := 3) (gDec iX11_setClass_ok 2 rfl) rfl rfl rfl ?_
    refine go_callV (n2 := 0) (q := 6) kX11_65 (ctX11_isGlyph (τ := τ) hW hM) (gDec iX11_setClass_ok 3 rfl) rfl rfl (by decide) rfl rfl rfl (Nat.le_of_ble_eq_true rfl) rfl (gFit_rm (by decide) (by decide)) rfl ?_
    refine go_top (v' := 0) (gWi_f (by (try rw [i2l_toInt]); exact h1)) ?_
    refine go_if_ne (t := 13) (q := 9) (gDec iX11_setClass_ok 4 rfl) (by decide) rfl (fun c6 => False.elim (c6 rfl)) (fun c6 => ?_)
    refine go_iconst (v := nI 1) (q := 10) (gDec iX11_setClass_ok 5 rfl) (by decide) rfl ?_
    refine go_goto (t := 28) (gDec iX11_setClass_ok 6 rfl) (by decide) ?_
    refine go_puti (q := 31) fX11_54 gft11 (gDec iX11_setClass_ok 16 rfl) rfl (by decide) rfl rfl rfl rfl ?_
    refine go_aload_n (q := 32) (gDec iX11_setClass_ok 17 rfl) rfl rfl rfl ?_
    refine go_geti (q := 35) fX11_54 (gDec iX11_setClass_ok 18 rfl) rfl (by decide) rfl ?_
    refine go_top (v' := nI 1) rfl ?_
    refine go_if_le (t := 40) (q := 38) (gDec iX11_setClass_ok 19 rfl) (by decide) rfl (fun c35 => False.elim (absurd c35 (by decide))) (fun c35 => ?_)
    refine go_iconst (v := nI 0) (q := 39) (gDec iX11_setClass_ok 20 rfl) (by decide) rfl ?_
    exact go_ireturn (gDec iX11_setClass_ok 21 rfl) rfl rfl rfl (congrArg (gPut σ 376 5) xc_OA_O) (by decide)

theorem gMR.hdr {τ τ' : gST} {s s' : Nat → Int32} (h : gMR τ s) (hW : gDW τ) (ho : ∀ k, k < 36 → k ≠ 1 → k ≠ 20 → k ≠ 26 → k ≠ 28 → τ'.1 k = τ.1 k) (hs : ∀ x, 196 ≤ x → s' x = s x) (hs0 : s' 0 = s 0)
    (h1 : s' 1 = τ'.1 1 4 ∧ s' 2 = τ'.1 1 5 ∧ s' 3 = nI (nA (τ'.1 20 5))) (h2 : ∀ k, k < 36 → s' (4 + k) = (if τ'.1 26 k = 301 then 0 else 1) ∧ (¬ τ'.1 26 k = 301 → s' (40 + k) = τ'.1 26 k)) (h3 : gMP τ' s') : gMR τ' s' := by
  have h24 := hW.ng24
  have hH : ∀ k, k < 36 → (k ≠ 1 ∧ k ≠ 20 ∧ k ≠ 26 ∧ k ≠ 28) → τ'.1 k = τ.1 k := fun k q1 q2 => ho k q1 q2.1 q2.2.1 q2.2.2.1 q2.2.2.2
  have e : gNg τ' = gNg τ := by unfold gNg; rw [hH 2 (by decide) (by decide)]
  refine ⟨⟨?_, h1.1, h1.2.1, h1.2.2⟩, h2, h3, fun g hg => ?_⟩
  · rw [hs0, hH 2 (by decide) (by decide)]; exact h.1.1
  · rw [e] at hg
    exact (h.2.2.2 g hg).same hW (by omega) (fun x q1 q2 => hs x (by omega)) (congrFun (hH 4 (by decide) (by decide)) _) (congrFun (hH 6 (by decide) (by decide)) _) (fun _ _ => congrFun (hH 8 (by decide) (by decide)) _) (fun _ _ => congrFun (hH 10 (by decide) (by decide)) _) (fun _ _ => congrFun (hH 12 (by decide) (by decide)) _)
      (fun _ _ => congrFun (hH 15 (by decide) (by decide)) _) (fun _ _ => congrFun (hH 17 (by decide) (by decide)) _) (fun _ _ => congrFun (hH 19 (by decide) (by decide)) _) (congrFun (hH 22 (by decide) (by decide)) _) (congrFun (hH 24 (by decide) (by decide)) _) (congrFun (hH 31 (by decide) (by decide)) _) (fun _ _ => congrFun (hH 33 (by decide) (by decide)) _) (fun _ _ => congrFun (hH 35 (by decide) (by decide)) _)
/-- the class's invariants, where only kerns, tracking or space change -/
theorem gCI.hdr {τ τ' : gST} (hC : gCI τ) (ho : ∀ k, k < 36 → k ≠ 1 → k ≠ 20 → k ≠ 26 → k ≠ 28 → τ'.1 k = τ.1 k) (hK : gKW τ') : gCI τ' := by
  have hW := hC.dw
  have hH : ∀ k, k < 36 → (k ≠ 1 ∧ k ≠ 20 ∧ k ≠ 26 ∧ k ≠ 28) → τ'.1 k = τ.1 k := fun k q1 q2 => ho k q1 q2.1 q2.2.1 q2.2.2.1 q2.2.2.2
  refine ⟨⟨?_, ?_, ?_, ?_, ?_, ?_, ?_⟩, ?_, ?_, ?_, ?_, hK⟩
  · rw [hH 2 (by decide) (by decide)]; exact hW.1
  · rw [hH 6 (by decide) (by decide)]; exact hW.2.1
  · rw [hH 8 (by decide) (by decide)]; exact hW.2.2.1
  · rw [hH 17 (by decide) (by decide)]; exact hW.2.2.2.1
  · rw [hH 22 (by decide) (by decide)]; exact hW.2.2.2.2.1
  · rw [hH 24 (by decide) (by decide)]; exact hW.2.2.2.2.2.1
  · rw [hH 31 (by decide) (by decide)]; exact hW.2.2.2.2.2.2
  · exact hC.lw.c (hH 2 (by decide) (by decide)) (hH 17 (by decide) (by decide))
  · exact hC.po.c (hH 2 (by decide) (by decide)) (hH 6 (by decide) (by decide)) (hH 8 (by decide) (by decide)) (hH 10 (by decide) (by decide)) (hH 12 (by decide) (by decide))
  · exact hC.gw.c (hH 2 (by decide) (by decide)) (hH 4 (by decide) (by decide)) (hH 6 (by decide) (by decide)) (hH 31 (by decide) (by decide)) (hH 22 (by decide) (by decide)) (hH 24 (by decide) (by decide)) (hH 15 (by decide) (by decide))
  · exact hC.sw.c (hH 2 (by decide) (by decide)) (hH 31 (by decide) (by decide)) (hH 33 (by decide) (by decide)) (hH 35 (by decide) (by decide))
theorem gMP.c {τ τ' : gST} {s s' : Nat → Int32} (h : gMP τ s) (e20 : τ'.1 20 5 = τ.1 20 5) (e28 : τ'.1 28 = τ.1 28) (hs : ∀ x, 76 ≤ x → x < 196 → s' x = s x) : gMP τ' s' := by
  obtain ⟨pr, c0, c1, c2, c3⟩ := h
  refine ⟨pr, ?_, ?_, ?_, ?_⟩
  · rw [e20]; exact c0
  · rw [e20, e28]
    intro k hk
    rw [hs _ (by omega) (by omega), hs _ (by omega) (by omega), hs _ (by omega) (by omega)]; exact c1 k hk
  · rw [e20, e28]; exact c2
  · rw [e20]; exact c3
theorem mt_setProof {ρ : gST} {r : Nat → Int32} {t s : Int32} (hC : gCI ρ) (hM : gMR ρ r) (h1 : -100 ≤ t.toInt ∧ t.toInt ≤ 200) (h2 : 50 ≤ s.toInt ∧ s.toInt ≤ 1000) : gCI (gPut (gPut ρ 1 4 t) 1 5 s) ∧ gMR (gPut (gPut ρ 1 4 t) 1 5 s) (upd (upd r 1 t) 2 s) := by
  obtain ⟨τ', hτ⟩ : ∃ τ', τ' = gPut (gPut ρ 1 4 t) 1 5 s := ⟨_, rfl⟩
  have ho : ∀ k, k ≠ 1 → τ'.1 k = ρ.1 k := fun k q1 => by rw [hτ, gPut_ne _ _ _ q1, gPut_ne _ _ _ q1]
  have e4 : τ'.1 1 4 = t := by rw [hτ, gPut_at, if_neg (by omega), gPut_at, if_pos ⟨rfl, rfl⟩]
  have e5 : τ'.1 1 5 = s := by rw [hτ, gPut_at, if_pos ⟨rfl, rfl⟩]
  rw [← hτ]
  have hK := hC.kw
  refine ⟨hC.hdr (fun k _ q1 _ _ _ => ho k q1) ⟨?_, ?_, ?_, ?_, ?_⟩, hM.hdr hC.dw (fun k _ q1 _ _ _ => ho k q1) (fun x hx => by rw [uN, if_neg (by omega), uN, if_neg (by omega)]) (by rw [uN, if_neg (by omega), uN, if_neg (by omega)]) ⟨?_, ?_, ?_⟩ (fun k hk => ?_) ?_⟩
  · rw [ho 26 (by decide)]; exact hK.1
  · rw [ho 28 (by decide)]; exact hK.2.1
  · rw [ho 26 (by decide), ho 20 (by decide)]; exact hK.2.2.1
  · rw [ho 20 (by decide)]; exact hK.2.2.2.1
  · rw [e4, e5]; exact ⟨h1, h2⟩
  · rw [uN, if_neg (by omega), uN, if_pos rfl, e4]
  · rw [uN, if_pos rfl, e5]
  · rw [uN, if_neg (by omega), uN, if_neg (by omega), ho 20 (by decide)]; exact hM.pn
  · have u : ∀ x, 3 ≤ x → upd (upd r 1 t) 2 s x = r x := fun x hx => by rw [uN, if_neg (by omega), uN, if_neg (by omega)]
    rw [u _ (by omega), u _ (by omega), ho 26 (by decide)]; exact hM.2.1 k hk
  · exact hM.mp.c (by rw [ho 20 (by decide)]) (ho 28 (by decide)) (fun x q1 q2 => by rw [uN, if_neg (by omega), uN, if_neg (by omega)])

set_option maxHeartbeats 4000000 in
set_option maxRecDepth 100000 in
theorem okw_setProof {κ : gK} {σ τ : gST} {t s : Int32} (h : gAll τ σ) (h1 : -100 ≤ t.toInt ∧ t.toInt ≤ 200) (h2 : 50 ≤ s.toInt ∧ s.toInt ≤ 1000) : gCt κ mX11_setProof 9 [.ref (κ.2.1 + 376), .int t, .int s] σ (rI (τ.1 1 5)) (gPut (gPut (gChg (gPut σ 376 5 0) (nA (τ.1 71 2))) 377 1 t) 377 2 s) 0 := by
  have hM := h.mr
  refine ct_of (by decide +kernel) rfl (Nat.le_of_ble_eq_true rfl) rfl ?_
  refine go_aload_n (q := 1) (gDec iX11_setProof_ok 0 rfl) rfl rfl rfl ?_
  refine go_iload_n (q := 2) (gDec iX11_setProof_ok 1 rfl) rfl rfl rfl ?_
  refine go_i2l (q := 3) (gDec iX11_setProof_ok 2 rfl) rfl ?_
  refine go_bipush (v := (-100)) (q := 5) (gDec iX11_setProof_ok 3 rfl) (by decide) rfl ?_
  refine go_sipush (v := nI 200) (q := 8) (gDec iX11_setProof_ok 4 rfl) (by decide) rfl ?_
  refine go_callS (n2 := 0) (q := 11) kX11_57 ctX11_in (gDec iX11_setProof_ok 5 rfl) rfl rfl (Nat.le_of_ble_eq_true rfl) rfl (gFit_rm (by decide) (by decide)) rfl ?_
  refine go_top (v' := 1) (gWi_t (by (try rw [i2l_toInt]); exact h1)) ?_
  refine go_if_eq (t := 31) (q := 14) (gDec iX11_setProof_ok 6 rfl) (by decide) rfl (fun c11 => False.elim (absurd c11 (by decide))) (fun c11 => ?_)
  refine go_iload_n (q := 15) (gDec iX11_setProof_ok 7 rfl) rfl rfl rfl ?_
  refine go_i2l (q := 16) (gDec iX11_setProof_ok 8 rfl) rfl ?_
  refine go_bipush (v := nI 50) (q := 18) (gDec iX11_setProof_ok 9 rfl) (by decide) rfl ?_
  refine go_sipush (v := nI 1000) (q := 21) (gDec iX11_setProof_ok 10 rfl) (by decide) rfl ?_
  refine go_callS (n2 := 0) (q := 24) kX11_57 ctX11_in (gDec iX11_setProof_ok 11 rfl) rfl rfl (Nat.le_of_ble_eq_true rfl) rfl (gFit_rm (by decide) (by decide)) rfl ?_
  refine go_top (v' := 1) (gWi_t (by (try rw [i2l_toInt]); exact h2)) ?_
  refine go_if_eq (t := 31) (q := 27) (gDec iX11_setProof_ok 12 rfl) (by decide) rfl (fun c24 => False.elim (absurd c24 (by decide))) (fun c24 => ?_)
  refine go_iconst (v := nI 0) (q := 28) (gDec iX11_setProof_ok 13 rfl) (by decide) rfl ?_
  refine go_goto (t := 32) (gDec iX11_setProof_ok 14 rfl) (by decide) ?_
  refine go_puti (q := 35) fX11_54 gft11 (gDec iX11_setProof_ok 16 rfl) rfl (by decide) rfl rfl rfl rfl ?_
  refine go_aload_n (q := 36) (gDec iX11_setProof_ok 17 rfl) rfl rfl rfl ?_
  refine go_geti (q := 39) fX11_54 (gDec iX11_setProof_ok 18 rfl) rfl (by decide) rfl ?_
  refine go_top (v' := nI 0) rfl ?_
  refine go_if_le (t := 44) (q := 42) (gDec iX11_setProof_ok 19 rfl) (by decide) rfl (fun c39 => ?_) (fun c39 => False.elim (c39 (by decide)))
  refine go_aload_n (q := 45) (gDec iX11_setProof_ok 22 rfl) rfl rfl rfl ?_
  refine go_callV (n2 := 0) (q := 48) kX11_89 (ctX11_change (n := (nA (τ.1 71 2))) h.hr.1 h.n8) (gDec iX11_setProof_ok 23 rfl) rfl rfl (by decide) rfl rfl rfl (Nat.le_of_ble_eq_true rfl) rfl (gFit_rm (by decide) (by decide)) rfl ?_
  refine go_w (show _ = gChg (gPut σ 376 5 0) (nA (τ.1 71 2)) from rfl) ?_
  refine go_aload_n (q := 49) (gDec iX11_setProof_ok 24 rfl) rfl rfl rfl ?_
  refine go_getr (r' := 377) (q := 52) fX11_9 (gDec iX11_setProof_ok 25 rfl) rfl (by decide) rfl ?_
  refine go_iconst (v := nI 2) (q := 53) (gDec iX11_setProof_ok 26 rfl) (by decide) rfl ?_
  refine go_ialdN (q := 54) (gDec iX11_setProof_ok 27 rfl) rfl (by decide) (j := 2) (by omega) (by decide) rfl ?_
  refine go_top (v' := τ.1 1 5) (hM.1.2.2.1) ?_
  refine go_istore_n (q := 55) (gDec iX11_setProof_ok 28 rfl) rfl (by decide) rfl ?_
  refine go_aload_n (q := 56) (gDec iX11_setProof_ok 29 rfl) rfl rfl rfl ?_
  refine go_getr (r' := 377) (q := 59) fX11_9 (gDec iX11_setProof_ok 30 rfl) rfl (by decide) rfl ?_
  refine go_iconst (v := nI 1) (q := 60) (gDec iX11_setProof_ok 31 rfl) (by decide) rfl ?_
  refine go_iload_n (q := 61) (gDec iX11_setProof_ok 32 rfl) rfl rfl rfl ?_
  refine go_iastN (q := 62) (gDec iX11_setProof_ok 33 rfl) rfl (by decide) (j := 1) (by omega) (by decide) rfl ?_
  refine go_aload_n (q := 63) (gDec iX11_setProof_ok 34 rfl) rfl rfl rfl ?_
  refine go_getr (r' := 377) (q := 66) fX11_9 (gDec iX11_setProof_ok 35 rfl) rfl (by decide) rfl ?_
  refine go_iconst (v := nI 2) (q := 67) (gDec iX11_setProof_ok 36 rfl) (by decide) rfl ?_
  refine go_iload_n (q := 68) (gDec iX11_setProof_ok 37 rfl) rfl rfl rfl ?_
  refine go_iastN (q := 69) (gDec iX11_setProof_ok 38 rfl) rfl (by decide) (j := 2) (by omega) (by decide) rfl ?_
  refine go_iload_n (q := 70) (gDec iX11_setProof_ok 39 rfl) rfl rfl rfl ?_
  exact go_ireturn (gDec iX11_setProof_ok 40 rfl) rfl rfl rfl rfl (by decide)

set_option maxHeartbeats 4000000 in
set_option maxRecDepth 100000 in
theorem ok_setProof {κ : gK} {σ τ : gST} {t s : Int32} (h : gAll τ σ) : gOK κ mX11_setProof [.ref (κ.2.1 + 376), .int t, .int s] σ (rI (aI (fSetProof τ t s).1)) kA (fSetProof τ t s) := by
  have hC := h.ci
  have hM := h.mr
  have hW := hC.dw
  have h24 := hW.ng24
  by_cases h1 : -100 ≤ t.toInt ∧ t.toInt ≤ 200
  · by_cases h2 : 50 ≤ s.toInt ∧ s.toInt ≤ 1000
    · rw [show fSetProof τ t s = (rI (τ.1 1 5), (gPut (gPut (gRem τ) 1 4 t) 1 5 s)) from if_pos ⟨h1, h2⟩]
      refine gOK.ch h (okw_setProof h h1 h2) (mt_setProof (gRem_ci hC) (gRem_mr hC hM) h1 h2) (fun k hk => by rw [gPut_ne _ _ _ (by omega), gPut_ne _ _ _ (by omega)]) (by rw [show gNg (gPut (gPut (gRem τ) 1 4 t) 1 5 s) = gNg (gRem τ) from rfl, gRem_ng]; exact Nat.le_refl _) (fun k hk => by rw [gPut_ne _ _ _ hk, gPut_ne _ _ _ hk]) rfl
    · rw [show fSetProof τ t s = (xIAE, τ) from if_neg (fun h9 => h2 h9.2)]
      refine gOK.rd h rfl ?_
      refine ct_of (by decide +kernel) rfl (Nat.le_of_ble_eq_true rfl) rfl ?_
      refine go_aload_n (q := 1) (gDec iX11_setProof_ok 0 rfl) rfl rfl rfl ?_
      refine go_iload_n (q := 2) (gDec iX11_setProof_ok 1 rfl) rfl rfl rfl ?_
      refine go_i2l (q := 3) (gDec iX11_setProof_ok 2 rfl) rfl ?_
      refine go_bipush (v := (-100)) (q := 5) (gDec iX11_setProof_ok 3 rfl) (by decide) rfl ?_
      refine go_sipush (v := nI 200) (q := 8) (gDec iX11_setProof_ok 4 rfl) (by decide) rfl ?_
      refine go_callS (n2 := 0) (q := 11) kX11_57 ctX11_in (gDec iX11_setProof_ok 5 rfl) rfl rfl (Nat.le_of_ble_eq_true rfl) rfl (gFit_rm (by decide) (by decide)) rfl ?_
      refine go_top (v' := 1) (gWi_t (by (try rw [i2l_toInt]); exact h1)) ?_
      refine go_if_eq (t := 31) (q := 14) (gDec iX11_setProof_ok 6 rfl) (by decide) rfl (fun c11 => False.elim (absurd c11 (by decide))) (fun c11 => ?_)
      refine go_iload_n (q := 15) (gDec iX11_setProof_ok 7 rfl) rfl rfl rfl ?_
      refine go_i2l (q := 16) (gDec iX11_setProof_ok 8 rfl) rfl ?_
      refine go_bipush (v := nI 50) (q := 18) (gDec iX11_setProof_ok 9 rfl) (by decide) rfl ?_
      refine go_sipush (v := nI 1000) (q := 21) (gDec iX11_setProof_ok 10 rfl) (by decide) rfl ?_
      refine go_callS (n2 := 0) (q := 24) kX11_57 ctX11_in (gDec iX11_setProof_ok 11 rfl) rfl rfl (Nat.le_of_ble_eq_true rfl) rfl (gFit_rm (by decide) (by decide)) rfl ?_
      refine go_top (v' := 0) (gWi_f (by (try rw [i2l_toInt]); exact h2)) ?_
      refine go_if_eq (t := 31) (q := 27) (gDec iX11_setProof_ok 12 rfl) (by decide) rfl (fun c24 => ?_) (fun c24 => False.elim (c24 rfl))
      refine go_iconst (v := nI 1) (q := 32) (gDec iX11_setProof_ok 15 rfl) (by decide) rfl ?_
      refine go_puti (q := 35) fX11_54 gft11 (gDec iX11_setProof_ok 16 rfl) rfl (by decide) rfl rfl rfl rfl ?_
      refine go_aload_n (q := 36) (gDec iX11_setProof_ok 17 rfl) rfl rfl rfl ?_
      refine go_geti (q := 39) fX11_54 (gDec iX11_setProof_ok 18 rfl) rfl (by decide) rfl ?_
      refine go_top (v' := nI 1) rfl ?_
      refine go_if_le (t := 44) (q := 42) (gDec iX11_setProof_ok 19 rfl) (by decide) rfl (fun c39 => False.elim (absurd c39 (by decide))) (fun c39 => ?_)
      refine go_iconst (v := nI 0) (q := 43) (gDec iX11_setProof_ok 20 rfl) (by decide) rfl ?_
      exact go_ireturn (gDec iX11_setProof_ok 21 rfl) rfl rfl rfl (congrArg (gPut σ 376 5) xc_A_A) (by decide)
  · rw [show fSetProof τ t s = (xIAE, τ) from if_neg (fun h9 => h1 h9.1)]
    refine gOK.rd h rfl ?_
    refine ct_of (by decide +kernel) rfl (Nat.le_of_ble_eq_true rfl) rfl ?_
    refine go_aload_n (q := 1) (gDec iX11_setProof_ok 0 rfl) rfl rfl rfl ?_
    refine go_iload_n (q := 2) (gDec iX11_setProof_ok 1 rfl) rfl rfl rfl ?_
    refine go_i2l (q := 3) (gDec iX11_setProof_ok 2 rfl) rfl ?_
    refine go_bipush (v := (-100)) (q := 5) (gDec iX11_setProof_ok 3 rfl) (by decide) rfl ?_
    refine go_sipush (v := nI 200) (q := 8) (gDec iX11_setProof_ok 4 rfl) (by decide) rfl ?_
    refine go_callS (n2 := 0) (q := 11) kX11_57 ctX11_in (gDec iX11_setProof_ok 5 rfl) rfl rfl (Nat.le_of_ble_eq_true rfl) rfl (gFit_rm (by decide) (by decide)) rfl ?_
    refine go_top (v' := 0) (gWi_f (by (try rw [i2l_toInt]); exact h1)) ?_
    refine go_if_eq (t := 31) (q := 14) (gDec iX11_setProof_ok 6 rfl) (by decide) rfl (fun c11 => ?_) (fun c11 => False.elim (c11 rfl))
    refine go_iconst (v := nI 1) (q := 32) (gDec iX11_setProof_ok 15 rfl) (by decide) rfl ?_
    refine go_puti (q := 35) fX11_54 gft11 (gDec iX11_setProof_ok 16 rfl) rfl (by decide) rfl rfl rfl rfl ?_
    refine go_aload_n (q := 36) (gDec iX11_setProof_ok 17 rfl) rfl rfl rfl ?_
    refine go_geti (q := 39) fX11_54 (gDec iX11_setProof_ok 18 rfl) rfl (by decide) rfl ?_
    refine go_top (v' := nI 1) rfl ?_
    refine go_if_le (t := 44) (q := 42) (gDec iX11_setProof_ok 19 rfl) (by decide) rfl (fun c39 => False.elim (absurd c39 (by decide))) (fun c39 => ?_)
    refine go_iconst (v := nI 0) (q := 43) (gDec iX11_setProof_ok 20 rfl) (by decide) rfl ?_
    exact go_ireturn (gDec iX11_setProof_ok 21 rfl) rfl rfl rfl (congrArg (gPut σ 376 5) xc_A_A) (by decide)
