theorem mt_box {ρ : gST} {s : Nat → Int32} {i c : Nat} {x y w h0 : Int32} (hC : gCI ρ) (hM : gMR ρ s) (hi : i < gNg ρ) (hc : c = gNc ρ i) (hlt : c < 3) (q1 : gCo x.toInt y.toInt) (q2 : gCo (x + w).toInt (y + h0).toInt) :
    gCI (gBox ρ i c x y (x + w) (y + h0)) ∧ gMR (gBox ρ i c x y (x + w) (y + h0)) (upd (upd (upd (upd (upd (upd (upd (upd (upd (upd s (196 + 96 * i + 1) (nI (c + 1))) (196 + 96 * i + (2 + c)) (nI 4)) (196 + 96 * i + (5 + 2 * (12 * c + 0))) x) ((196 + 96 * i + (5 + 2 * (12 * c + 0))) + 1) y) (196 + 96 * i + (5 + 2 * (12 * c + 1))) (x + w)) ((196 + 96 * i + (5 + 2 * (12 * c + 1))) + 1) y) (196 + 96 * i + (5 + 2 * (12 * c + 2))) (x + w)) ((196 + 96 * i + (5 + 2 * (12 * c + 2))) + 1) (y + h0)) (196 + 96 * i + (5 + 2 * (12 * c + 3))) x) ((196 + 96 * i + (5 + 2 * (12 * c + 3))) + 1) (y + h0)) := by
  have hW := hC.dw
  have h24 := hW.ng24
  obtain ⟨τ', hτ⟩ : ∃ τ', τ' = gBox ρ i c x y (x + w) (y + h0) := ⟨_, rfl⟩
  have ho : ∀ k, k ≠ 6 → k ≠ 8 → k ≠ 10 → k ≠ 12 → τ'.1 k = ρ.1 k := fun k q1 q2 q3 q4 => by
    rw [hτ]
    unfold gBox
    dsimp only
    rw [gPut_ne _ _ _ q2, gPut_ne _ _ _ q4, gPut_ne _ _ _ q3, gPut_ne _ _ _ q2, gPut_ne _ _ _ q4, gPut_ne _ _ _ q3, gPut_ne _ _ _ q2, gPut_ne _ _ _ q4, gPut_ne _ _ _ q3, gPut_ne _ _ _ q2, gPut_ne _ _ _ q4, gPut_ne _ _ _ q3, gPut_ne _ _ _ q2, gPut_ne _ _ _ q1]
  have e6 : ∀ a, τ'.1 6 a = if a = i then nI (c + 1) else ρ.1 6 a := fun a => by
    rw [hτ]
    unfold gBox
    dsimp only
    rw [gPut_ne _ _ _ (by decide), gPut_ne _ _ _ (by decide), gPut_ne _ _ _ (by decide), gPut_ne _ _ _ (by decide), gPut_ne _ _ _ (by decide), gPut_ne _ _ _ (by decide), gPut_ne _ _ _ (by decide), gPut_ne _ _ _ (by decide), gPut_ne _ _ _ (by decide), gPut_ne _ _ _ (by decide), gPut_ne _ _ _ (by decide), gPut_ne _ _ _ (by decide), gPut_ne _ _ _ (by decide), gPut_s, uN]
  have e8 : ∀ a, τ'.1 8 a = if a = i * 3 + c then nI 4 else ρ.1 8 a := fun a => by
    rw [hτ]
    unfold gBox
    dsimp only
    rw [gPut_s, uN, gPut_ne _ _ _ (by decide), gPut_ne _ _ _ (by decide), gPut_s, uN, gPut_ne _ _ _ (by decide), gPut_ne _ _ _ (by decide), gPut_s, uN, gPut_ne _ _ _ (by decide), gPut_ne _ _ _ (by decide), gPut_s, uN, gPut_ne _ _ _ (by decide), gPut_ne _ _ _ (by decide), gPut_s, uN, gPut_ne _ _ _ (by decide)]
    by_cases ha : a = i * 3 + c
    · rw [if_pos ha, if_pos ha]
    · rw [if_neg ha, if_neg ha, if_neg ha, if_neg ha, if_neg ha, if_neg ha]
  have e10 : ∀ a, τ'.1 10 a = if a = ((i * 3 + c) * 12 + 3) then x else if a = ((i * 3 + c) * 12 + 2) then x + w else if a = ((i * 3 + c) * 12 + 1) then x + w else if a = ((i * 3 + c) * 12 + 0) then x else ρ.1 10 a := fun a => by
    rw [hτ]
    unfold gBox
    dsimp only
    rw [gPut_ne _ _ _ (by decide), gPut_ne _ _ _ (by decide), gPut_s, uN, gPut_ne _ _ _ (by decide), gPut_ne _ _ _ (by decide), gPut_s, uN, gPut_ne _ _ _ (by decide), gPut_ne _ _ _ (by decide), gPut_s, uN, gPut_ne _ _ _ (by decide), gPut_ne _ _ _ (by decide), gPut_s, uN, gPut_ne _ _ _ (by decide), gPut_ne _ _ _ (by decide)]
  have e12 : ∀ a, τ'.1 12 a = if a = ((i * 3 + c) * 12 + 3) then y + h0 else if a = ((i * 3 + c) * 12 + 2) then y + h0 else if a = ((i * 3 + c) * 12 + 1) then y else if a = ((i * 3 + c) * 12 + 0) then y else ρ.1 12 a := fun a => by
    rw [hτ]
    unfold gBox
    dsimp only
    rw [gPut_ne _ _ _ (by decide), gPut_s, uN, gPut_ne _ _ _ (by decide), gPut_ne _ _ _ (by decide), gPut_s, uN, gPut_ne _ _ _ (by decide), gPut_ne _ _ _ (by decide), gPut_s, uN, gPut_ne _ _ _ (by decide), gPut_ne _ _ _ (by decide), gPut_s, uN, gPut_ne _ _ _ (by decide), gPut_ne _ _ _ (by decide), gPut_ne _ _ _ (by decide)]
  rw [← hτ]
  have eng : gNg τ' = gNg ρ := by unfold gNg; rw [ho 2 (by decide) (by decide) (by decide) (by decide)]
  have enc : ∀ g, gNc τ' g = if g = i then c + 1 else gNc ρ g := fun g => by
    unfold gNc
    rw [e6]
    split
    · exact nA_nI (by omega)
    · rfl
  have enp : ∀ g k, k < 3 → gNp τ' g k = if g = i ∧ k = c then 4 else gNp ρ g k := fun g k hk => by
    unfold gNp
    rw [e8]
    by_cases hq : g = i ∧ k = c
    · rw [if_pos (by omega), if_pos hq]; rfl
    · rw [if_neg (by omega), if_neg hq]
  have c3 : ∀ g, g < 24 → gNc ρ g ≤ 3 := fun g hg => hW.nc3 hg
  refine ⟨hC.con (fun k _ _ a1 a2 a3 a4 => ho k a1 a2 a3 a4) ?_ ?_ ⟨?_, ?_⟩ ?_, hM.con hW hi (fun k _ _ a1 a2 a3 a4 => ho k a1 a2 a3 a4) (fun g hg _ => by rw [e6, if_neg hg]) (fun g k hg hg2 hk => by rw [e8, if_neg (by omega)]) (fun g z hg hg2 hz => ?_) (fun z hz => ?_) ?_ ?_ ?_⟩
  · intro a ha
    rw [e6]
    split
    · rw [nI_toInt (by omega)]; omega
    · exact hW.2.1 a ha
  · intro a ha
    rw [e8]
    split
    · decide
    · exact hW.2.2.1 a ha
  · rw [eng]
    intro g k hg hk
    rw [enc] at hk
    by_cases hgi : g = i
    · rw [if_pos hgi] at hk
      rw [enp g k (by omega)]
      split
      · decide
      · rename_i hq
        subst hgi
        exact hC.po.1 g k hg (by omega)
    · rw [if_neg hgi] at hk
      have := c3 g (by omega)
      rw [enp g k (by omega), if_neg (by omega)]
      exact hC.po.1 g k hg hk
  · rw [eng]
    intro g k p hg hk hp
    rw [enc] at hk
    have hk3 : k < 3 := by
      have := c3 g (by omega)
      split at hk <;> omega
    rw [enp g k hk3] at hp
    rw [e10, e12]
    by_cases hq : g = i ∧ k = c
    · rw [if_pos hq] at hp
      obtain ⟨rfl, rfl⟩ := hq
      rcases (by omega : p = 0 ∨ p = 1 ∨ p = 2 ∨ p = 3) with e | e | e | e <;> subst e
      · rw [if_neg (by omega), if_neg (by omega), if_neg (by omega), if_pos (by omega), if_neg (by omega), if_neg (by omega), if_neg (by omega), if_pos (by omega)]; exact q1
      · rw [if_neg (by omega), if_neg (by omega), if_pos (by omega), if_neg (by omega), if_neg (by omega), if_pos (by omega)]; exact ⟨q2.1, q1.2⟩
      · rw [if_neg (by omega), if_pos (by omega), if_neg (by omega), if_pos (by omega)]; exact q2
      · rw [if_pos (by omega), if_pos (by omega)]; exact ⟨q1.1, q2.2⟩
    · rw [if_neg hq] at hp
      have hk2 : k < gNc ρ g := by
        split at hk
        · rename_i hgi; subst hgi; omega
        · exact hk
      have hp12 := hW.np12 (g := g) (c := k) (by omega) hk3
      rw [if_neg (by omega), if_neg (by omega), if_neg (by omega), if_neg (by omega), if_neg (by omega), if_neg (by omega), if_neg (by omega), if_neg (by omega)]
      exact hC.po.2 g k p hg hk2 hp
  · intro g hg hg2
    rw [e6, if_neg (by omega)]
    exact (hC.gw.2 g hg hg2).1
  · rw [e10, e12, if_neg (by omega), if_neg (by omega), if_neg (by omega), if_neg (by omega), if_neg (by omega), if_neg (by omega), if_neg (by omega), if_neg (by omega)]
    exact ⟨rfl, rfl⟩
  · rw [uN, if_neg (by omega), uN, if_neg (by omega), uN, if_neg (by omega), uN, if_neg (by omega), uN, if_neg (by omega), uN, if_neg (by omega), uN, if_neg (by omega), uN, if_neg (by omega), uN, if_neg (by omega), uN, if_neg (by omega)]
  · rw [uN, if_neg (by omega), uN, if_neg (by omega), uN, if_neg (by omega), uN, if_neg (by omega), uN, if_neg (by omega), uN, if_neg (by omega), uN, if_neg (by omega), uN, if_neg (by omega), uN, if_neg (by omega), uN, if_pos rfl, e6, if_pos rfl]
  · rw [enc, if_pos rfl]
    intro k hk
    rw [e8]
    by_cases hkc : k = c
    · subst hkc
      rw [if_pos rfl, uN, if_neg (by omega), uN, if_neg (by omega), uN, if_neg (by omega), uN, if_neg (by omega), uN, if_neg (by omega), uN, if_neg (by omega), uN, if_neg (by omega), uN, if_neg (by omega), uN, if_pos rfl]
    · rw [if_neg (by omega), uN, if_neg (by omega), uN, if_neg (by omega), uN, if_neg (by omega), uN, if_neg (by omega), uN, if_neg (by omega), uN, if_neg (by omega), uN, if_neg (by omega), uN, if_neg (by omega), uN, if_neg (by omega), uN, if_neg (by omega)]
      exact hM.np0 hi (by omega) rfl
  · rw [enc, if_pos rfl]
    intro k p hk hp
    rw [enp i k (by omega)] at hp
    rw [e10, e12]
    by_cases hkc : k = c
    · rw [if_pos ⟨rfl, hkc⟩] at hp
      subst hkc
      rcases (by omega : p = 0 ∨ p = 1 ∨ p = 2 ∨ p = 3) with e | e | e | e <;> subst e
      · rw [if_neg (by omega), if_neg (by omega), if_neg (by omega), if_pos (by omega), if_neg (by omega), if_neg (by omega), if_neg (by omega), if_pos (by omega)]
        exact ⟨by rw [uN, if_neg (by omega), uN, if_neg (by omega), uN, if_neg (by omega), uN, if_neg (by omega), uN, if_neg (by omega), uN, if_neg (by omega), uN, if_neg (by omega), uN, if_pos rfl], by rw [uN, if_neg (by omega), uN, if_neg (by omega), uN, if_neg (by omega), uN, if_neg (by omega), uN, if_neg (by omega), uN, if_neg (by omega), uN, if_pos rfl]⟩
      · rw [if_neg (by omega), if_neg (by omega), if_pos (by omega), if_neg (by omega), if_neg (by omega), if_pos (by omega)]
        exact ⟨by rw [uN, if_neg (by omega), uN, if_neg (by omega), uN, if_neg (by omega), uN, if_neg (by omega), uN, if_neg (by omega), uN, if_pos rfl], by rw [uN, if_neg (by omega), uN, if_neg (by omega), uN, if_neg (by omega), uN, if_neg (by omega), uN, if_pos rfl]⟩
      · rw [if_neg (by omega), if_pos (by omega), if_neg (by omega), if_pos (by omega)]
        exact ⟨by rw [uN, if_neg (by omega), uN, if_neg (by omega), uN, if_neg (by omega), uN, if_pos rfl], by rw [uN, if_neg (by omega), uN, if_neg (by omega), uN, if_pos rfl]⟩
      · rw [if_pos (by omega), if_pos (by omega)]
        exact ⟨by rw [uN, if_neg (by omega), uN, if_pos rfl], by rw [uN, if_pos rfl]⟩
    · rw [if_neg (fun h9 => hkc h9.2)] at hp
      have hp12 := hW.np12 (g := i) (c := k) (by omega) (by omega)
      rw [if_neg (by omega), if_neg (by omega), if_neg (by omega), if_neg (by omega), if_neg (by omega), if_neg (by omega), if_neg (by omega), if_neg (by omega)]
      exact ⟨by rw [uN, if_neg (by omega), uN, if_neg (by omega), uN, if_neg (by omega), uN, if_neg (by omega), uN, if_neg (by omega), uN, if_neg (by omega), uN, if_neg (by omega), uN, if_neg (by omega), uN, if_neg (by omega), uN, if_neg (by omega)]; exact hM.px hi (by omega) hp rfl, by rw [uN, if_neg (by omega), uN, if_neg (by omega), uN, if_neg (by omega), uN, if_neg (by omega), uN, if_neg (by omega), uN, if_neg (by omega), uN, if_neg (by omega), uN, if_neg (by omega), uN, if_neg (by omega), uN, if_neg (by omega)]; exact hM.py hi (by omega) hp rfl⟩

set_option maxHeartbeats 4000000 in
set_option maxRecDepth 100000 in
theorem okw_addContour {κ : gK} {σ τ : gST} {i c : Nat} {x y w h0 : Int32} (h : gAll τ σ) (h1 : gInG τ (nI i)) (hi : i < gNg τ) (hc : c = gNc τ i) (hlt : c < 3) (h3 : ((1 ≤ w.toInt ∧ 1 ≤ h0.toInt) ∧ gCo x.toInt y.toInt) ∧ gCo (x.toInt + w.toInt) (y.toInt + h0.toInt)) : gCt κ mX11_addContour 9 [.ref (κ.2.1 + 376), .int (nI i), .int x, .int y, .int w, .int h0] σ (rI (nI c)) (gPut (gPut (gPut (gPut (gPut (gPut (gPut (gPut (gPut (gPut (gChg (gPut σ 376 5 0) (nA (τ.1 71 2))) 377 (196 + 96 * i + 1) (nI (c + 1))) 377 (196 + 96 * i + (2 + c)) (nI 4)) 377 (196 + 96 * i + (5 + 2 * (12 * c + 0))) x) 377 ((196 + 96 * i + (5 + 2 * (12 * c + 0))) + 1) y) 377 (196 + 96 * i + (5 + 2 * (12 * c + 1))) (x + w)) 377 ((196 + 96 * i + (5 + 2 * (12 * c + 1))) + 1) y) 377 (196 + 96 * i + (5 + 2 * (12 * c + 2))) (x + w)) 377 ((196 + 96 * i + (5 + 2 * (12 * c + 2))) + 1) (y + h0)) 377 (196 + 96 * i + (5 + 2 * (12 * c + 3))) x) 377 ((196 + 96 * i + (5 + 2 * (12 * c + 3))) + 1) (y + h0)) 0 := by
  have hC := h.ci
  have hM := h.mr
  have hW := hC.dw
  have h24 := hW.ng24
  have hM2 : gMR τ ((gChg (gPut σ 376 5 0) (nA (τ.1 71 2))).1 377) := hM
  refine ct_of (by decide +kernel) rfl (Nat.le_of_ble_eq_true rfl) rfl ?_
  refine go_aload_n (q := 1) (gDec iX11_addContour_ok 0 rfl) rfl rfl rfl ?_
  refine go_aload_n (q := 2) (gDec iX11_addContour_ok 1 rfl) rfl rfl rfl ?_
  refine go_iload_n (q := 3) (gDec iX11_addContour_ok 2 rfl) rfl rfl rfl ?_
  refine go_callV (n2 := 0) (q := 6) kX11_65 (ctX11_isGlyph (τ := τ) hW hM) (gDec iX11_addContour_ok 3 rfl) rfl rfl (by decide) rfl rfl rfl (Nat.le_of_ble_eq_true rfl) rfl (gFit_rm (by decide) (by decide)) rfl ?_
  refine go_top (v' := 1) (gWi_t (by (try rw [i2l_toInt]); exact h1)) ?_
  refine go_if_eq (t := 13) (q := 9) (gDec iX11_addContour_ok 4 rfl) (by decide) rfl (fun c6 => False.elim (absurd c6 (by decide))) (fun c6 => ?_)
  refine go_iconst (v := nI 0) (q := 10) (gDec iX11_addContour_ok 5 rfl) (by decide) rfl ?_
  refine go_goto (t := 14) (gDec iX11_addContour_ok 6 rfl) (by decide) ?_
  refine go_puti (q := 17) fX11_54 gft11 (gDec iX11_addContour_ok 8 rfl) rfl (by decide) rfl rfl rfl rfl ?_
  refine go_iload (q := 19) (gDec iX11_addContour_ok 9 rfl) rfl rfl ?_
  refine go_iconst (v := nI 1) (q := 20) (gDec iX11_addContour_ok 10 rfl) (by decide) rfl ?_
  refine go_icmp_lt (t := 73) (q := 23) (gDec iX11_addContour_ok 11 rfl) (by decide) rfl (fun c20 => False.elim (absurd c20 (i_one_lt.mpr h3.1.1.1))) (fun c20 => ?_)
  refine go_iload (q := 25) (gDec iX11_addContour_ok 12 rfl) rfl rfl ?_
  refine go_iconst (v := nI 1) (q := 26) (gDec iX11_addContour_ok 13 rfl) (by decide) rfl ?_
  refine go_icmp_lt (t := 73) (q := 29) (gDec iX11_addContour_ok 14 rfl) (by decide) rfl (fun c26 => False.elim (absurd c26 (i_one_lt.mpr h3.1.1.2))) (fun c26 => ?_)
  refine go_iload_n (q := 30) (gDec iX11_addContour_ok 15 rfl) rfl rfl rfl ?_
  refine go_i2l (q := 31) (gDec iX11_addContour_ok 16 rfl) rfl ?_
  refine go_callS (n2 := 0) (q := 34) kX11_99 ctX11_isCoordinate (gDec iX11_addContour_ok 17 rfl) rfl rfl (Nat.le_of_ble_eq_true rfl) rfl (gFit_rm (by decide) (by decide)) rfl ?_
  refine go_top (v' := 1) (gWi_t (by rw [i2l_toInt]; exact h3.1.2.1)) ?_
  refine go_if_eq (t := 73) (q := 37) (gDec iX11_addContour_ok 18 rfl) (by decide) rfl (fun c34 => False.elim (absurd c34 (by decide))) (fun c34 => ?_)
  refine go_iload_n (q := 38) (gDec iX11_addContour_ok 19 rfl) rfl rfl rfl ?_
  refine go_i2l (q := 39) (gDec iX11_addContour_ok 20 rfl) rfl ?_
  refine go_callS (n2 := 0) (q := 42) kX11_99 ctX11_isCoordinate (gDec iX11_addContour_ok 21 rfl) rfl rfl (Nat.le_of_ble_eq_true rfl) rfl (gFit_rm (by decide) (by decide)) rfl ?_
  refine go_top (v' := 1) (gWi_t (by rw [i2l_toInt]; exact h3.1.2.2)) ?_
  refine go_if_eq (t := 73) (q := 45) (gDec iX11_addContour_ok 22 rfl) (by decide) rfl (fun c42 => False.elim (absurd c42 (by decide))) (fun c42 => ?_)
  refine go_iload_n (q := 46) (gDec iX11_addContour_ok 23 rfl) rfl rfl rfl ?_
  refine go_i2l (q := 47) (gDec iX11_addContour_ok 24 rfl) rfl ?_
  refine go_iload (q := 49) (gDec iX11_addContour_ok 25 rfl) rfl rfl ?_
  refine go_i2l (q := 50) (gDec iX11_addContour_ok 26 rfl) rfl ?_
  refine go_ladd (q := 51) (gDec iX11_addContour_ok 27 rfl) rfl ?_
  refine go_callS (n2 := 0) (q := 54) kX11_99 ctX11_isCoordinate (gDec iX11_addContour_ok 28 rfl) rfl rfl (Nat.le_of_ble_eq_true rfl) rfl (gFit_rm (by decide) (by decide)) rfl ?_
  refine go_top (v' := 1) (gWi_t (by rw [l_add]; exact h3.2.1)) ?_
  refine go_if_eq (t := 73) (q := 57) (gDec iX11_addContour_ok 29 rfl) (by decide) rfl (fun c54 => False.elim (absurd c54 (by decide))) (fun c54 => ?_)
  refine go_iload_n (q := 58) (gDec iX11_addContour_ok 30 rfl) rfl rfl rfl ?_
  refine go_i2l (q := 59) (gDec iX11_addContour_ok 31 rfl) rfl ?_
  refine go_iload (q := 61) (gDec iX11_addContour_ok 32 rfl) rfl rfl ?_
  refine go_i2l (q := 62) (gDec iX11_addContour_ok 33 rfl) rfl ?_
  refine go_ladd (q := 63) (gDec iX11_addContour_ok 34 rfl) rfl ?_
  refine go_callS (n2 := 0) (q := 66) kX11_99 ctX11_isCoordinate (gDec iX11_addContour_ok 35 rfl) rfl rfl (Nat.le_of_ble_eq_true rfl) rfl (gFit_rm (by decide) (by decide)) rfl ?_
  refine go_top (v' := 1) (gWi_t (by rw [l_add]; exact h3.2.2)) ?_
  refine go_if_eq (t := 73) (q := 69) (gDec iX11_addContour_ok 36 rfl) (by decide) rfl (fun c66 => False.elim (absurd c66 (by decide))) (fun c66 => ?_)
  refine go_iconst (v := nI 1) (q := 70) (gDec iX11_addContour_ok 37 rfl) (by decide) rfl ?_
  refine go_goto (t := 74) (gDec iX11_addContour_ok 38 rfl) (by decide) ?_
  refine go_istore (q := 76) (gDec iX11_addContour_ok 40 rfl) (by decide) rfl ?_
  refine go_aload_n (q := 77) (gDec iX11_addContour_ok 41 rfl) rfl rfl rfl ?_
  refine go_aload_n (q := 78) (gDec iX11_addContour_ok 42 rfl) rfl rfl rfl ?_
  refine go_geti (q := 81) fX11_54 (gDec iX11_addContour_ok 43 rfl) rfl (by decide) rfl ?_
  refine go_top (v' := nI 0) rfl ?_
  refine go_if_le (t := 91) (q := 84) (gDec iX11_addContour_ok 44 rfl) (by decide) rfl (fun c81 => ?_) (fun c81 => False.elim (c81 (by decide)))
  refine go_iload (q := 93) (gDec iX11_addContour_ok 48 rfl) rfl rfl ?_
  refine go_if_ne (t := 100) (q := 96) (gDec iX11_addContour_ok 49 rfl) (by decide) rfl (fun c93 => ?_) (fun c93 => False.elim (absurd c93 (by decide)))
  refine go_aload_n (q := 101) (gDec iX11_addContour_ok 52 rfl) rfl rfl rfl ?_
  refine go_iload_n (q := 102) (gDec iX11_addContour_ok 53 rfl) rfl rfl rfl ?_
  refine go_iconst (v := nI 1) (q := 103) (gDec iX11_addContour_ok 54 rfl) (by decide) rfl ?_
  refine go_callV (n2 := 0) (q := 106) kX11_69 (ctX11_of (g := i) (w := 1) (by omega)) (gDec iX11_addContour_ok 55 rfl) rfl rfl (by decide) rfl rfl rfl (Nat.le_of_ble_eq_true rfl) rfl (gFit_rm (by decide) (by decide)) rfl ?_
  refine go_top (v' := nI c) (((gMRt hM).nc hW hi rfl).trans (by rw [hc])) ?_
  refine go_iconst (v := nI 3) (q := 107) (gDec iX11_addContour_ok 56 rfl) (by decide) rfl ?_
  refine go_icmp_ne (t := 114) (q := 110) (gDec iX11_addContour_ok 57 rfl) (by decide) rfl (fun c107 => ?_) (fun c107 => False.elim (absurd ((nI_eq (a := c) (b := 3) (by omega) (by decide)).mp c107) (by omega)))
  refine go_iconst (v := nI 0) (q := 115) (gDec iX11_addContour_ok 60 rfl) (by decide) rfl ?_
  refine go_puti (q := 118) fX11_54 gft11 (gDec iX11_addContour_ok 61 rfl) rfl (by decide) rfl rfl rfl rfl ?_
  refine go_aload_n (q := 119) (gDec iX11_addContour_ok 62 rfl) rfl rfl rfl ?_
  refine go_geti (q := 122) fX11_54 (gDec iX11_addContour_ok 63 rfl) rfl (by decide) rfl ?_
  refine go_top (v' := nI 0) rfl ?_
  refine go_if_le (t := 127) (q := 125) (gDec iX11_addContour_ok 64 rfl) (by decide) rfl (fun c122 => ?_) (fun c122 => False.elim (c122 (by decide)))
  refine go_aload_n (q := 128) (gDec iX11_addContour_ok 67 rfl) rfl rfl rfl ?_
  refine go_callV (n2 := 0) (q := 131) kX11_89 (ctX11_change (n := (nA (τ.1 71 2))) h.hr.1 h.n8) (gDec iX11_addContour_ok 68 rfl) rfl rfl (by decide) rfl rfl rfl (Nat.le_of_ble_eq_true rfl) rfl (gFit_rm (by decide) (by decide)) rfl ?_
  refine go_w (show _ = gChg (gPut σ 376 5 0) (nA (τ.1 71 2)) from congrArg (fun w => gChg w (nA (τ.1 71 2))) (gPut_tw σ 376 5 (nI 0) (nI 0))) ?_
  refine go_aload_n (q := 132) (gDec iX11_addContour_ok 69 rfl) rfl rfl rfl ?_
  refine go_iload_n (q := 133) (gDec iX11_addContour_ok 70 rfl) rfl rfl rfl ?_
  refine go_iconst (v := nI 1) (q := 134) (gDec iX11_addContour_ok 71 rfl) (by decide) rfl ?_
  refine go_callV (n2 := 0) (q := 137) kX11_69 (ctX11_of (g := i) (w := 1) (by omega)) (gDec iX11_addContour_ok 72 rfl) rfl rfl (by decide) rfl rfl rfl (Nat.le_of_ble_eq_true rfl) rfl (gFit_rm (by decide) (by decide)) rfl ?_
  refine go_top (v' := nI c) ((hM2.nc hW hi rfl).trans (by rw [hc])) ?_
  refine go_istore (q := 139) (gDec iX11_addContour_ok 73 rfl) (by decide) rfl ?_
  refine go_aload_n (q := 140) (gDec iX11_addContour_ok 74 rfl) rfl rfl rfl ?_
  refine go_getr (r' := 377) (q := 143) fX11_9 (gDec iX11_addContour_ok 75 rfl) rfl (by decide) rfl ?_
  refine go_iload_n (q := 144) (gDec iX11_addContour_ok 76 rfl) rfl rfl rfl ?_
  refine go_iconst (v := nI 1) (q := 145) (gDec iX11_addContour_ok 77 rfl) (by decide) rfl ?_
  refine go_callS (n2 := 0) (q := 148) kX11_61 (ctX11_at (g := i) (w := 1)) (gDec iX11_addContour_ok 78 rfl) rfl rfl (Nat.le_of_ble_eq_true rfl) rfl (gFit_rm (by decide) (by decide)) rfl ?_
  refine go_dup2 (q := 149) (gDec iX11_addContour_ok 79 rfl) rfl rfl rfl ?_
  refine go_ialdN (q := 150) (gDec iX11_addContour_ok 80 rfl) rfl (by decide) (by omega) (by decide) rfl ?_
  refine go_top (v' := nI c) ((hM2.nc hW hi rfl).trans (by rw [hc])) ?_
  refine go_iconst (v := nI 1) (q := 151) (gDec iX11_addContour_ok 81 rfl) (by decide) rfl ?_
  refine go_iaddN (c := c + 1) (q := 152) (gDec iX11_addContour_ok 82 rfl) rfl rfl ?_
  refine go_iastN (q := 153) (gDec iX11_addContour_ok 83 rfl) rfl (by decide) (by omega) (by decide) rfl ?_
  refine go_aload_n (q := 154) (gDec iX11_addContour_ok 84 rfl) rfl rfl rfl ?_
  refine go_getr (r' := 377) (q := 157) fX11_9 (gDec iX11_addContour_ok 85 rfl) rfl (by decide) rfl ?_
  refine go_iload_n (q := 158) (gDec iX11_addContour_ok 86 rfl) rfl rfl rfl ?_
  refine go_iconst (v := nI 2) (q := 159) (gDec iX11_addContour_ok 87 rfl) (by decide) rfl ?_
  refine go_iload (q := 161) (gDec iX11_addContour_ok 88 rfl) rfl rfl ?_
  refine go_iaddN (c := 2 + c) (q := 162) (gDec iX11_addContour_ok 89 rfl) rfl rfl ?_
  refine go_callS (n2 := 0) (q := 165) kX11_61 (ctX11_at (g := i) (w := 2 + c)) (gDec iX11_addContour_ok 90 rfl) rfl rfl (Nat.le_of_ble_eq_true rfl) rfl (gFit_rm (by decide) (by decide)) rfl ?_
  refine go_iconst (v := nI 4) (q := 166) (gDec iX11_addContour_ok 91 rfl) (by decide) rfl ?_
  refine go_iastN (q := 167) (gDec iX11_addContour_ok 92 rfl) rfl (by decide) (by omega) (by decide) rfl ?_
  refine go_aload_n (q := 168) (gDec iX11_addContour_ok 93 rfl) rfl rfl rfl ?_
  refine go_iload_n (q := 169) (gDec iX11_addContour_ok 94 rfl) rfl rfl rfl ?_
  refine go_iload (q := 171) (gDec iX11_addContour_ok 95 rfl) rfl rfl ?_
  refine go_iconst (v := nI 0) (q := 172) (gDec iX11_addContour_ok 96 rfl) (by decide) rfl ?_
  refine go_iload_n (q := 173) (gDec iX11_addContour_ok 97 rfl) rfl rfl rfl ?_
  refine go_iload_n (q := 174) (gDec iX11_addContour_ok 98 rfl) rfl rfl rfl ?_
  refine go_callV (n2 := 0) (q := 177) kX11_103 (ctX11_setPoint (g := i) (c := c) (p := 0) (by omega) hlt (by omega)) (gDec iX11_addContour_ok 99 rfl) rfl rfl (by decide) rfl rfl rfl (Nat.le_of_ble_eq_true rfl) rfl (gFit_rm (by decide) (by decide)) rfl ?_
  refine go_aload_n (q := 178) (gDec iX11_addContour_ok 100 rfl) rfl rfl rfl ?_
  refine go_iload_n (q := 179) (gDec iX11_addContour_ok 101 rfl) rfl rfl rfl ?_
  refine go_iload (q := 181) (gDec iX11_addContour_ok 102 rfl) rfl rfl ?_
  refine go_iconst (v := nI 1) (q := 182) (gDec iX11_addContour_ok 103 rfl) (by decide) rfl ?_
  refine go_iload_n (q := 183) (gDec iX11_addContour_ok 104 rfl) rfl rfl rfl ?_
  refine go_iload (q := 185) (gDec iX11_addContour_ok 105 rfl) rfl rfl ?_
  refine go_iadd (q := 186) (gDec iX11_addContour_ok 106 rfl) rfl ?_
  refine go_iload_n (q := 187) (gDec iX11_addContour_ok 107 rfl) rfl rfl rfl ?_
  refine go_callV (n2 := 0) (q := 190) kX11_103 (ctX11_setPoint (g := i) (c := c) (p := 1) (by omega) hlt (by omega)) (gDec iX11_addContour_ok 108 rfl) rfl rfl (by decide) rfl rfl rfl (Nat.le_of_ble_eq_true rfl) rfl (gFit_rm (by decide) (by decide)) rfl ?_
  refine go_aload_n (q := 191) (gDec iX11_addContour_ok 109 rfl) rfl rfl rfl ?_
  refine go_iload_n (q := 192) (gDec iX11_addContour_ok 110 rfl) rfl rfl rfl ?_
  refine go_iload (q := 194) (gDec iX11_addContour_ok 111 rfl) rfl rfl ?_
  refine go_iconst (v := nI 2) (q := 195) (gDec iX11_addContour_ok 112 rfl) (by decide) rfl ?_
  refine go_iload_n (q := 196) (gDec iX11_addContour_ok 113 rfl) rfl rfl rfl ?_
  refine go_iload (q := 198) (gDec iX11_addContour_ok 114 rfl) rfl rfl ?_
  refine go_iadd (q := 199) (gDec iX11_addContour_ok 115 rfl) rfl ?_
  refine go_iload_n (q := 200) (gDec iX11_addContour_ok 116 rfl) rfl rfl rfl ?_
  refine go_iload (q := 202) (gDec iX11_addContour_ok 117 rfl) rfl rfl ?_
  refine go_iadd (q := 203) (gDec iX11_addContour_ok 118 rfl) rfl ?_
  refine go_callV (n2 := 0) (q := 206) kX11_103 (ctX11_setPoint (g := i) (c := c) (p := 2) (by omega) hlt (by omega)) (gDec iX11_addContour_ok 119 rfl) rfl rfl (by decide) rfl rfl rfl (Nat.le_of_ble_eq_true rfl) rfl (gFit_rm (by decide) (by decide)) rfl ?_
  refine go_aload_n (q := 207) (gDec iX11_addContour_ok 120 rfl) rfl rfl rfl ?_
  refine go_iload_n (q := 208) (gDec iX11_addContour_ok 121 rfl) rfl rfl rfl ?_
  refine go_iload (q := 210) (gDec iX11_addContour_ok 122 rfl) rfl rfl ?_
  refine go_iconst (v := nI 3) (q := 211) (gDec iX11_addContour_ok 123 rfl) (by decide) rfl ?_
  refine go_iload_n (q := 212) (gDec iX11_addContour_ok 124 rfl) rfl rfl rfl ?_
  refine go_iload_n (q := 213) (gDec iX11_addContour_ok 125 rfl) rfl rfl rfl ?_
  refine go_iload (q := 215) (gDec iX11_addContour_ok 126 rfl) rfl rfl ?_
  refine go_iadd (q := 216) (gDec iX11_addContour_ok 127 rfl) rfl ?_
  refine go_callV (n2 := 0) (q := 219) kX11_103 (ctX11_setPoint (g := i) (c := c) (p := 3) (by omega) hlt (by omega)) (gDec iX11_addContour_ok 128 rfl) rfl rfl (by decide) rfl rfl rfl (Nat.le_of_ble_eq_true rfl) rfl (gFit_rm (by decide) (by decide)) rfl ?_
  refine go_iload (q := 221) (gDec iX11_addContour_ok 129 rfl) rfl rfl ?_
  exact go_ireturn (gDec iX11_addContour_ok 130 rfl) rfl rfl rfl rfl (by decide)

set_option maxHeartbeats 4000000 in
set_option maxRecDepth 100000 in
theorem ok_addContour {κ : gK} {σ τ : gST} {g x y w h0 : Int32} (h : gAll τ σ) : gOK κ mX11_addContour [.ref (κ.2.1 + 376), .int g, .int x, .int y, .int w, .int h0] σ (rI (aI (fAddContour τ g x y w h0).1)) kOAS (fAddContour τ g x y w h0) := by
  have hC := h.ci
  have hM := h.mr
  have hW := hC.dw
  have h24 := hW.ng24
  by_cases h1 : gInG τ g
  · obtain ⟨i, hi, rfl⟩ := gInG.ex h1
    have hc3 := hW.nc3 (g := i) (by omega)
    by_cases h3 : ((1 ≤ w.toInt ∧ 1 ≤ h0.toInt) ∧ gCo x.toInt y.toInt) ∧ gCo (x.toInt + w.toInt) (y.toInt + h0.toInt)
    · by_cases h4 : 3 ≤ gNc τ i
      · rw [show fAddContour τ (nI i) x y w h0 = (xISE, τ) from (if_pos h1).trans ((if_pos h3).trans (if_pos (by rw [nA_nI (n := i) (by omega)]; exact h4)))]
        refine gOK.rd h rfl ?_
        refine ct_of (by decide +kernel) rfl (Nat.le_of_ble_eq_true rfl) rfl ?_
        refine go_aload_n (q := 1) (gDec iX11_addContour_ok 0 rfl) rfl rfl rfl ?_
        refine go_aload_n (q := 2) (gDec iX11_addContour_ok 1 rfl) rfl rfl rfl ?_
        refine go_iload_n (q := 3) (gDec iX11_addContour_ok 2 rfl) rfl rfl rfl ?_
        refine go_callV (n2 := 0) (q := 6) kX11_65 (ctX11_isGlyph (τ := τ) hW hM) (gDec iX11_addContour_ok 3 rfl) rfl rfl (by decide) rfl rfl rfl (Nat.le_of_ble_eq_true rfl) rfl (gFit_rm (by decide) (by decide)) rfl ?_
        refine go_top (v' := 1) (gWi_t (by (try rw [i2l_toInt]); exact h1)) ?_
        refine go_if_eq (t := 13) (q := 9) (gDec iX11_addContour_ok 4 rfl) (by decide) rfl (fun c6 => False.elim (absurd c6 (by decide))) (fun c6 => ?_)
        refine go_iconst (v := nI 0) (q := 10) (gDec iX11_addContour_ok 5 rfl) (by decide) rfl ?_
        refine go_goto (t := 14) (gDec iX11_addContour_ok 6 rfl) (by decide) ?_
        refine go_puti (q := 17) fX11_54 gft11 (gDec iX11_addContour_ok 8 rfl) rfl (by decide) rfl rfl rfl rfl ?_
        refine go_iload (q := 19) (gDec iX11_addContour_ok 9 rfl) rfl rfl ?_
        refine go_iconst (v := nI 1) (q := 20) (gDec iX11_addContour_ok 10 rfl) (by decide) rfl ?_
        refine go_icmp_lt (t := 73) (q := 23) (gDec iX11_addContour_ok 11 rfl) (by decide) rfl (fun c20 => False.elim (absurd c20 (i_one_lt.mpr h3.1.1.1))) (fun c20 => ?_)
        refine go_iload (q := 25) (gDec iX11_addContour_ok 12 rfl) rfl rfl ?_
        refine go_iconst (v := nI 1) (q := 26) (gDec iX11_addContour_ok 13 rfl) (by decide) rfl ?_
        refine go_icmp_lt (t := 73) (q := 29) (gDec iX11_addContour_ok 14 rfl) (by decide) rfl (fun c26 => False.elim (absurd c26 (i_one_lt.mpr h3.1.1.2))) (fun c26 => ?_)
        refine go_iload_n (q := 30) (gDec iX11_addContour_ok 15 rfl) rfl rfl rfl ?_
        refine go_i2l (q := 31) (gDec iX11_addContour_ok 16 rfl) rfl ?_
        refine go_callS (n2 := 0) (q := 34) kX11_99 ctX11_isCoordinate (gDec iX11_addContour_ok 17 rfl) rfl rfl (Nat.le_of_ble_eq_true rfl) rfl (gFit_rm (by decide) (by decide)) rfl ?_
        refine go_top (v' := 1) (gWi_t (by rw [i2l_toInt]; exact h3.1.2.1)) ?_
        refine go_if_eq (t := 73) (q := 37) (gDec iX11_addContour_ok 18 rfl) (by decide) rfl (fun c34 => False.elim (absurd c34 (by decide))) (fun c34 => ?_)
        refine go_iload_n (q := 38) (gDec iX11_addContour_ok 19 rfl) rfl rfl rfl ?_
        refine go_i2l (q := 39) (gDec iX11_addContour_ok 20 rfl) rfl ?_
        refine go_callS (n2 := 0) (q := 42) kX11_99 ctX11_isCoordinate (gDec iX11_addContour_ok 21 rfl) rfl rfl (Nat.le_of_ble_eq_true rfl) rfl (gFit_rm (by decide) (by decide)) rfl ?_
        refine go_top (v' := 1) (gWi_t (by rw [i2l_toInt]; exact h3.1.2.2)) ?_
        refine go_if_eq (t := 73) (q := 45) (gDec iX11_addContour_ok 22 rfl) (by decide) rfl (fun c42 => False.elim (absurd c42 (by decide))) (fun c42 => ?_)
        refine go_iload_n (q := 46) (gDec iX11_addContour_ok 23 rfl) rfl rfl rfl ?_
        refine go_i2l (q := 47) (gDec iX11_addContour_ok 24 rfl) rfl ?_
        refine go_iload (q := 49) (gDec iX11_addContour_ok 25 rfl) rfl rfl ?_
        refine go_i2l (q := 50) (gDec iX11_addContour_ok 26 rfl) rfl ?_
        refine go_ladd (q := 51) (gDec iX11_addContour_ok 27 rfl) rfl ?_
        refine go_callS (n2 := 0) (q := 54) kX11_99 ctX11_isCoordinate (gDec iX11_addContour_ok 28 rfl) rfl rfl (Nat.le_of_ble_eq_true rfl) rfl (gFit_rm (by decide) (by decide)) rfl ?_
        refine go_top (v' := 1) (gWi_t (by rw [l_add]; exact h3.2.1)) ?_
        refine go_if_eq (t := 73) (q := 57) (gDec iX11_addContour_ok 29 rfl) (by decide) rfl (fun c54 => False.elim (absurd c54 (by decide))) (fun c54 => ?_)
        refine go_iload_n (q := 58) (gDec iX11_addContour_ok 30 rfl) rfl rfl rfl ?_
        refine go_i2l (q := 59) (gDec iX11_addContour_ok 31 rfl) rfl ?_
        refine go_iload (q := 61) (gDec iX11_addContour_ok 32 rfl) rfl rfl ?_
        refine go_i2l (q := 62) (gDec iX11_addContour_ok 33 rfl) rfl ?_
        refine go_ladd (q := 63) (gDec iX11_addContour_ok 34 rfl) rfl ?_
        refine go_callS (n2 := 0) (q := 66) kX11_99 ctX11_isCoordinate (gDec iX11_addContour_ok 35 rfl) rfl rfl (Nat.le_of_ble_eq_true rfl) rfl (gFit_rm (by decide) (by decide)) rfl ?_
        refine go_top (v' := 1) (gWi_t (by rw [l_add]; exact h3.2.2)) ?_
        refine go_if_eq (t := 73) (q := 69) (gDec iX11_addContour_ok 36 rfl) (by decide) rfl (fun c66 => False.elim (absurd c66 (by decide))) (fun c66 => ?_)
        refine go_iconst (v := nI 1) (q := 70) (gDec iX11_addContour_ok 37 rfl) (by decide) rfl ?_
        refine go_goto (t := 74) (gDec iX11_addContour_ok 38 rfl) (by decide) ?_
        refine go_istore (q := 76) (gDec iX11_addContour_ok 40 rfl) (by decide) rfl ?_
        refine go_aload_n (q := 77) (gDec iX11_addContour_ok 41 rfl) rfl rfl rfl ?_
        refine go_aload_n (q := 78) (gDec iX11_addContour_ok 42 rfl) rfl rfl rfl ?_
        refine go_geti (q := 81) fX11_54 (gDec iX11_addContour_ok 43 rfl) rfl (by decide) rfl ?_
        refine go_top (v' := nI 0) rfl ?_
        refine go_if_le (t := 91) (q := 84) (gDec iX11_addContour_ok 44 rfl) (by decide) rfl (fun c81 => ?_) (fun c81 => False.elim (c81 (by decide)))
        refine go_iload (q := 93) (gDec iX11_addContour_ok 48 rfl) rfl rfl ?_
        refine go_if_ne (t := 100) (q := 96) (gDec iX11_addContour_ok 49 rfl) (by decide) rfl (fun c93 => ?_) (fun c93 => False.elim (absurd c93 (by decide)))
        refine go_aload_n (q := 101) (gDec iX11_addContour_ok 52 rfl) rfl rfl rfl ?_
        refine go_iload_n (q := 102) (gDec iX11_addContour_ok 53 rfl) rfl rfl rfl ?_
        refine go_iconst (v := nI 1) (q := 103) (gDec iX11_addContour_ok 54 rfl) (by decide) rfl ?_
        refine go_callV (n2 := 0) (q := 106) kX11_69 (ctX11_of (g := i) (w := 1) (by omega)) (gDec iX11_addContour_ok 55 rfl) rfl rfl (by decide) rfl rfl rfl (Nat.le_of_ble_eq_true rfl) rfl (gFit_rm (by decide) (by decide)) rfl ?_
        refine go_top (v' := nI 3) (((gMRt hM).nc hW hi rfl).trans (congrArg nI (by omega))) ?_
        refine go_iconst (v := nI 3) (q := 107) (gDec iX11_addContour_ok 56 rfl) (by decide) rfl ?_
        refine go_icmp_ne (t := 114) (q := 110) (gDec iX11_addContour_ok 57 rfl) (by decide) rfl (fun c107 => False.elim (c107 rfl)) (fun c107 => ?_)
        refine go_iconst (v := nI 3) (q := 111) (gDec iX11_addContour_ok 58 rfl) (by decide) rfl ?_
        refine go_goto (t := 115) (gDec iX11_addContour_ok 59 rfl) (by decide) ?_
        refine go_puti (q := 118) fX11_54 gft11 (gDec iX11_addContour_ok 61 rfl) rfl (by decide) rfl rfl rfl rfl ?_
        refine go_aload_n (q := 119) (gDec iX11_addContour_ok 62 rfl) rfl rfl rfl ?_
        refine go_geti (q := 122) fX11_54 (gDec iX11_addContour_ok 63 rfl) rfl (by decide) rfl ?_
        refine go_top (v' := nI 3) rfl ?_
        refine go_if_le (t := 127) (q := 125) (gDec iX11_addContour_ok 64 rfl) (by decide) rfl (fun c122 => False.elim (absurd c122 (by decide))) (fun c122 => ?_)
        refine go_iconst (v := nI 0) (q := 126) (gDec iX11_addContour_ok 65 rfl) (by decide) rfl ?_
        exact go_ireturn (gDec iX11_addContour_ok 66 rfl) rfl rfl rfl (gPut_2x (congrArg (gPut σ 376 5) xc_OAS_S)) (by decide)
      · rw [show fAddContour τ (nI i) x y w h0 = (rI (nI (gNc τ i)), (gBox (gRem τ) i (gNc τ i) x y (x + w) (y + h0))) from (if_pos h1).trans ((if_pos h3).trans ((if_neg (by rw [nA_nI (n := i) (by omega)]; exact h4)).trans (by rw [nA_nI (n := i) (by omega)])))]
        have ho : ∀ k, k ≠ 6 → k ≠ 8 → k ≠ 10 → k ≠ 12 → (gBox (gRem τ) i (gNc τ i) x y (x + w) (y + h0)).1 k = (gRem τ).1 k := fun k q1 q2 q3 q4 => by
          unfold gBox
          dsimp only
          rw [gPut_ne _ _ _ q2, gPut_ne _ _ _ q4, gPut_ne _ _ _ q3, gPut_ne _ _ _ q2, gPut_ne _ _ _ q4, gPut_ne _ _ _ q3, gPut_ne _ _ _ q2, gPut_ne _ _ _ q4, gPut_ne _ _ _ q3, gPut_ne _ _ _ q2, gPut_ne _ _ _ q4, gPut_ne _ _ _ q3, gPut_ne _ _ _ q2, gPut_ne _ _ _ q1]
        refine gOK.ch h (okw_addContour h h1 hi rfl (by omega) h3) (mt_box (gRem_ci hC) (gRem_mr hC hM) (by rw [gRem_ng]; exact hi) ((gRem_1 τ).nc (by omega)).symm (by omega) h3.1.2 ⟨by rw [gCo_i h3.2.1]; exact h3.2.1, by rw [gCo_i h3.2.2]; exact h3.2.2⟩) (fun k hk => ho k (by omega) (by omega) (by omega) (by omega)) ?_ (fun k hk => by rw [gPut_ne _ _ _ hk, gPut_ne _ _ _ hk, gPut_ne _ _ _ hk, gPut_ne _ _ _ hk, gPut_ne _ _ _ hk, gPut_ne _ _ _ hk, gPut_ne _ _ _ hk, gPut_ne _ _ _ hk, gPut_ne _ _ _ hk, gPut_ne _ _ _ hk]) rfl
        have e : gNg (gBox (gRem τ) i (gNc τ i) x y (x + w) (y + h0)) = gNg (gRem τ) := by unfold gNg; rw [ho 2 (by decide) (by decide) (by decide) (by decide)]
        rw [e, gRem_ng]
        exact Nat.le_refl _
    · rw [show fAddContour τ (nI i) x y w h0 = (xIAE, τ) from (if_pos h1).trans (if_neg h3)]
      refine gOK.rd h rfl ?_
      refine ct_of (by decide +kernel) rfl (Nat.le_of_ble_eq_true rfl) rfl ?_
      refine go_aload_n (q := 1) (gDec iX11_addContour_ok 0 rfl) rfl rfl rfl ?_
      refine go_aload_n (q := 2) (gDec iX11_addContour_ok 1 rfl) rfl rfl rfl ?_
      refine go_iload_n (q := 3) (gDec iX11_addContour_ok 2 rfl) rfl rfl rfl ?_
      refine go_callV (n2 := 0) (q := 6) kX11_65 (ctX11_isGlyph (τ := τ) hW hM) (gDec iX11_addContour_ok 3 rfl) rfl rfl (by decide) rfl rfl rfl (Nat.le_of_ble_eq_true rfl) rfl (gFit_rm (by decide) (by decide)) rfl ?_
      refine go_top (v' := 1) (gWi_t (by (try rw [i2l_toInt]); exact h1)) ?_
      refine go_if_eq (t := 13) (q := 9) (gDec iX11_addContour_ok 4 rfl) (by decide) rfl (fun c6 => False.elim (absurd c6 (by decide))) (fun c6 => ?_)
      refine go_iconst (v := nI 0) (q := 10) (gDec iX11_addContour_ok 5 rfl) (by decide) rfl ?_
      refine go_goto (t := 14) (gDec iX11_addContour_ok 6 rfl) (by decide) ?_
      refine go_puti (q := 17) fX11_54 gft11 (gDec iX11_addContour_ok 8 rfl) rfl (by decide) rfl rfl rfl rfl ?_
      refine go_iload (q := 19) (gDec iX11_addContour_ok 9 rfl) rfl rfl ?_
      refine go_iconst (v := nI 1) (q := 20) (gDec iX11_addContour_ok 10 rfl) (by decide) rfl ?_
      refine go_icmp_lt (t := 73) (q := 23) (gDec iX11_addContour_ok 11 rfl) (by decide) rfl (fun c20 => ?_) (fun c20 => ?_)
      · refine go_iconst (v := nI 0) (q := 74) (gDec iX11_addContour_ok 39 rfl) (by decide) rfl ?_
        refine go_istore (q := 76) (gDec iX11_addContour_ok 40 rfl) (by decide) rfl ?_
        refine go_aload_n (q := 77) (gDec iX11_addContour_ok 41 rfl) rfl rfl rfl ?_
        refine go_aload_n (q := 78) (gDec iX11_addContour_ok 42 rfl) rfl rfl rfl ?_
        refine go_geti (q := 81) fX11_54 (gDec iX11_addContour_ok 43 rfl) rfl (by decide) rfl ?_
        refine go_top (v' := nI 0) rfl ?_
        refine go_if_le (t := 91) (q := 84) (gDec iX11_addContour_ok 44 rfl) (by decide) rfl (fun c81 => ?_) (fun c81 => False.elim (c81 (by decide)))
        refine go_iload (q := 93) (gDec iX11_addContour_ok 48 rfl) rfl rfl ?_
        refine go_if_ne (t := 100) (q := 96) (gDec iX11_addContour_ok 49 rfl) (by decide) rfl (fun c93 => False.elim (absurd c93 (by decide))) (fun c93 => ?_)
        refine go_iconst (v := nI 2) (q := 97) (gDec iX11_addContour_ok 50 rfl) (by decide) rfl ?_
        refine go_goto (t := 115) (gDec iX11_addContour_ok 51 rfl) (by decide) ?_
        refine go_puti (q := 118) fX11_54 gft11 (gDec iX11_addContour_ok 61 rfl) rfl (by decide) rfl rfl rfl rfl ?_
        refine go_aload_n (q := 119) (gDec iX11_addContour_ok 62 rfl) rfl rfl rfl ?_
        refine go_geti (q := 122) fX11_54 (gDec iX11_addContour_ok 63 rfl) rfl (by decide) rfl ?_
        refine go_top (v' := nI 2) rfl ?_
        refine go_if_le (t := 127) (q := 125) (gDec iX11_addContour_ok 64 rfl) (by decide) rfl (fun c122 => False.elim (absurd c122 (by decide))) (fun c122 => ?_)
        refine go_iconst (v := nI 0) (q := 126) (gDec iX11_addContour_ok 65 rfl) (by decide) rfl ?_
        exact go_ireturn (gDec iX11_addContour_ok 66 rfl) rfl rfl rfl (gPut_2x (congrArg (gPut σ 376 5) xc_OAS_A)) (by decide)
      · refine go_iload (q := 25) (gDec iX11_addContour_ok 12 rfl) rfl rfl ?_
        refine go_iconst (v := nI 1) (q := 26) (gDec iX11_addContour_ok 13 rfl) (by decide) rfl ?_
        refine go_icmp_lt (t := 73) (q := 29) (gDec iX11_addContour_ok 14 rfl) (by decide) rfl (fun c26 => ?_) (fun c26 => ?_)
        · refine go_iconst (v := nI 0) (q := 74) (gDec iX11_addContour_ok 39 rfl) (by decide) rfl ?_
          refine go_istore (q := 76) (gDec iX11_addContour_ok 40 rfl) (by decide) rfl ?_
          refine go_aload_n (q := 77) (gDec iX11_addContour_ok 41 rfl) rfl rfl rfl ?_
          refine go_aload_n (q := 78) (gDec iX11_addContour_ok 42 rfl) rfl rfl rfl ?_
          refine go_geti (q := 81) fX11_54 (gDec iX11_addContour_ok 43 rfl) rfl (by decide) rfl ?_
          refine go_top (v' := nI 0) rfl ?_
          refine go_if_le (t := 91) (q := 84) (gDec iX11_addContour_ok 44 rfl) (by decide) rfl (fun c81 => ?_) (fun c81 => False.elim (c81 (by decide)))
          refine go_iload (q := 93) (gDec iX11_addContour_ok 48 rfl) rfl rfl ?_
          refine go_if_ne (t := 100) (q := 96) (gDec iX11_addContour_ok 49 rfl) (by decide) rfl (fun c93 => False.elim (absurd c93 (by decide))) (fun c93 => ?_)
          refine go_iconst (v := nI 2) (q := 97) (gDec iX11_addContour_ok 50 rfl) (by decide) rfl ?_
          refine go_goto (t := 115) (gDec iX11_addContour_ok 51 rfl) (by decide) ?_
          refine go_puti (q := 118) fX11_54 gft11 (gDec iX11_addContour_ok 61 rfl) rfl (by decide) rfl rfl rfl rfl ?_
          refine go_aload_n (q := 119) (gDec iX11_addContour_ok 62 rfl) rfl rfl rfl ?_
          refine go_geti (q := 122) fX11_54 (gDec iX11_addContour_ok 63 rfl) rfl (by decide) rfl ?_
          refine go_top (v' := nI 2) rfl ?_
          refine go_if_le (t := 127) (q := 125) (gDec iX11_addContour_ok 64 rfl) (by decide) rfl (fun c122 => False.elim (absurd c122 (by decide))) (fun c122 => ?_)
          refine go_iconst (v := nI 0) (q := 126) (gDec iX11_addContour_ok 65 rfl) (by decide) rfl ?_
          exact go_ireturn (gDec iX11_addContour_ok 66 rfl) rfl rfl rfl (gPut_2x (congrArg (gPut σ 376 5) xc_OAS_A)) (by decide)
        · refine go_iload_n (q := 30) (gDec iX11_addContour_ok 15 rfl) rfl rfl rfl ?_
          refine go_i2l (q := 31) (gDec iX11_addContour_ok 16 rfl) rfl ?_
          refine go_callS (n2 := 0) (q := 34) kX11_99 ctX11_isCoordinate (gDec iX11_addContour_ok 17 rfl) rfl rfl (Nat.le_of_ble_eq_true rfl) rfl (gFit_rm (by decide) (by decide)) rfl ?_
          refine go_if_eq (t := 73) (q := 37) (gDec iX11_addContour_ok 18 rfl) (by decide) rfl (fun c34 => ?_) (fun c34 => ?_)
          · refine go_iconst (v := nI 0) (q := 74) (gDec iX11_addContour_ok 39 rfl) (by decide) rfl ?_
            refine go_istore (q := 76) (gDec iX11_addContour_ok 40 rfl) (by decide) rfl ?_
            refine go_aload_n (q := 77) (gDec iX11_addContour_ok 41 rfl) rfl rfl rfl ?_
            refine go_aload_n (q := 78) (gDec iX11_addContour_ok 42 rfl) rfl rfl rfl ?_
            refine go_geti (q := 81) fX11_54 (gDec iX11_addContour_ok 43 rfl) rfl (by decide) rfl ?_
            refine go_top (v' := nI 0) rfl ?_
            refine go_if_le (t := 91) (q := 84) (gDec iX11_addContour_ok 44 rfl) (by decide) rfl (fun c81 => ?_) (fun c81 => False.elim (c81 (by decide)))
            refine go_iload (q := 93) (gDec iX11_addContour_ok 48 rfl) rfl rfl ?_
            refine go_if_ne (t := 100) (q := 96) (gDec iX11_addContour_ok 49 rfl) (by decide) rfl (fun c93 => False.elim (absurd c93 (by decide))) (fun c93 => ?_)
            refine go_iconst (v := nI 2) (q := 97) (gDec iX11_addContour_ok 50 rfl) (by decide) rfl ?_
            refine go_goto (t := 115) (gDec iX11_addContour_ok 51 rfl) (by decide) ?_
            refine go_puti (q := 118) fX11_54 gft11 (gDec iX11_addContour_ok 61 rfl) rfl (by decide) rfl rfl rfl rfl ?_
            refine go_aload_n (q := 119) (gDec iX11_addContour_ok 62 rfl) rfl rfl rfl ?_
            refine go_geti (q := 122) fX11_54 (gDec iX11_addContour_ok 63 rfl) rfl (by decide) rfl ?_
            refine go_top (v' := nI 2) rfl ?_
            refine go_if_le (t := 127) (q := 125) (gDec iX11_addContour_ok 64 rfl) (by decide) rfl (fun c122 => False.elim (absurd c122 (by decide))) (fun c122 => ?_)
            refine go_iconst (v := nI 0) (q := 126) (gDec iX11_addContour_ok 65 rfl) (by decide) rfl ?_
            exact go_ireturn (gDec iX11_addContour_ok 66 rfl) rfl rfl rfl (gPut_2x (congrArg (gPut σ 376 5) xc_OAS_A)) (by decide)
          · refine go_iload_n (q := 38) (gDec iX11_addContour_ok 19 rfl) rfl rfl rfl ?_
            refine go_i2l (q := 39) (gDec iX11_addContour_ok 20 rfl) rfl ?_
            refine go_callS (n2 := 0) (q := 42) kX11_99 ctX11_isCoordinate (gDec iX11_addContour_ok 21 rfl) rfl rfl (Nat.le_of_ble_eq_true rfl) rfl (gFit_rm (by decide) (by decide)) rfl ?_
            refine go_if_eq (t := 73) (q := 45) (gDec iX11_addContour_ok 22 rfl) (by decide) rfl (fun c42 => ?_) (fun c42 => ?_)
            · refine go_iconst (v := nI 0) (q := 74) (gDec iX11_addContour_ok 39 rfl) (by decide) rfl ?_
              refine go_istore (q := 76) (gDec iX11_addContour_ok 40 rfl) (by decide) rfl ?_
              refine go_aload_n (q := 77) (gDec iX11_addContour_ok 41 rfl) rfl rfl rfl ?_
              refine go_aload_n (q := 78) (gDec iX11_addContour_ok 42 rfl) rfl rfl rfl ?_
              refine go_geti (q := 81) fX11_54 (gDec iX11_addContour_ok 43 rfl) rfl (by decide) rfl ?_
              refine go_top (v' := nI 0) rfl ?_
              refine go_if_le (t := 91) (q := 84) (gDec iX11_addContour_ok 44 rfl) (by decide) rfl (fun c81 => ?_) (fun c81 => False.elim (c81 (by decide)))
              refine go_iload (q := 93) (gDec iX11_addContour_ok 48 rfl) rfl rfl ?_
              refine go_if_ne (t := 100) (q := 96) (gDec iX11_addContour_ok 49 rfl) (by decide) rfl (fun c93 => False.elim (absurd c93 (by decide))) (fun c93 => ?_)
              refine go_iconst (v := nI 2) (q := 97) (gDec iX11_addContour_ok 50 rfl) (by decide) rfl ?_
              refine go_goto (t := 115) (gDec iX11_addContour_ok 51 rfl) (by decide) ?_
              refine go_puti (q := 118) fX11_54 gft11 (gDec iX11_addContour_ok 61 rfl) rfl (by decide) rfl rfl rfl rfl ?_
              refine go_aload_n (q := 119) (gDec iX11_addContour_ok 62 rfl) rfl rfl rfl ?_
              refine go_geti (q := 122) fX11_54 (gDec iX11_addContour_ok 63 rfl) rfl (by decide) rfl ?_
              refine go_top (v' := nI 2) rfl ?_
              refine go_if_le (t := 127) (q := 125) (gDec iX11_addContour_ok 64 rfl) (by decide) rfl (fun c122 => False.elim (absurd c122 (by decide))) (fun c122 => ?_)
              refine go_iconst (v := nI 0) (q := 126) (gDec iX11_addContour_ok 65 rfl) (by decide) rfl ?_
              exact go_ireturn (gDec iX11_addContour_ok 66 rfl) rfl rfl rfl (gPut_2x (congrArg (gPut σ 376 5) xc_OAS_A)) (by decide)
            · refine go_iload_n (q := 46) (gDec iX11_addContour_ok 23 rfl) rfl rfl rfl ?_
              refine go_i2l (q := 47) (gDec iX11_addContour_ok 24 rfl) rfl ?_
              refine go_iload (q := 49) (gDec iX11_addContour_ok 25 rfl) rfl rfl ?_
              refine go_i2l (q := 50) (gDec iX11_addContour_ok 26 rfl) rfl ?_
              refine go_ladd (q := 51) (gDec iX11_addContour_ok 27 rfl) rfl ?_
              refine go_callS (n2 := 0) (q := 54) kX11_99 ctX11_isCoordinate (gDec iX11_addContour_ok 28 rfl) rfl rfl (Nat.le_of_ble_eq_true rfl) rfl (gFit_rm (by decide) (by decide)) rfl ?_
              refine go_if_eq (t := 73) (q := 57) (gDec iX11_addContour_ok 29 rfl) (by decide) rfl (fun c54 => ?_) (fun c54 => ?_)
              · refine go_iconst (v := nI 0) (q := 74) (gDec iX11_addContour_ok 39 rfl) (by decide) rfl ?_
                refine go_istore (q := 76) (gDec iX11_addContour_ok 40 rfl) (by decide) rfl ?_
                refine go_aload_n (q := 77) (gDec iX11_addContour_ok 41 rfl) rfl rfl rfl ?_
                refine go_aload_n (q := 78) (gDec iX11_addContour_ok 42 rfl) rfl rfl rfl ?_
                refine go_geti (q := 81) fX11_54 (gDec iX11_addContour_ok 43 rfl) rfl (by decide) rfl ?_
                refine go_top (v' := nI 0) rfl ?_
                refine go_if_le (t := 91) (q := 84) (gDec iX11_addContour_ok 44 rfl) (by decide) rfl (fun c81 => ?_) (fun c81 => False.elim (c81 (by decide)))
                refine go_iload (q := 93) (gDec iX11_addContour_ok 48 rfl) rfl rfl ?_
                refine go_if_ne (t := 100) (q := 96) (gDec iX11_addContour_ok 49 rfl) (by decide) rfl (fun c93 => False.elim (absurd c93 (by decide))) (fun c93 => ?_)
                refine go_iconst (v := nI 2) (q := 97) (gDec iX11_addContour_ok 50 rfl) (by decide) rfl ?_
                refine go_goto (t := 115) (gDec iX11_addContour_ok 51 rfl) (by decide) ?_
                refine go_puti (q := 118) fX11_54 gft11 (gDec iX11_addContour_ok 61 rfl) rfl (by decide) rfl rfl rfl rfl ?_
                refine go_aload_n (q := 119) (gDec iX11_addContour_ok 62 rfl) rfl rfl rfl ?_
                refine go_geti (q := 122) fX11_54 (gDec iX11_addContour_ok 63 rfl) rfl (by decide) rfl ?_
                refine go_top (v' := nI 2) rfl ?_
                refine go_if_le (t := 127) (q := 125) (gDec iX11_addContour_ok 64 rfl) (by decide) rfl (fun c122 => False.elim (absurd c122 (by decide))) (fun c122 => ?_)
                refine go_iconst (v := nI 0) (q := 126) (gDec iX11_addContour_ok 65 rfl) (by decide) rfl ?_
                exact go_ireturn (gDec iX11_addContour_ok 66 rfl) rfl rfl rfl (gPut_2x (congrArg (gPut σ 376 5) xc_OAS_A)) (by decide)
              · refine go_iload_n (q := 58) (gDec iX11_addContour_ok 30 rfl) rfl rfl rfl ?_
                refine go_i2l (q := 59) (gDec iX11_addContour_ok 31 rfl) rfl ?_
                refine go_iload (q := 61) (gDec iX11_addContour_ok 32 rfl) rfl rfl ?_
                refine go_i2l (q := 62) (gDec iX11_addContour_ok 33 rfl) rfl ?_
                refine go_ladd (q := 63) (gDec iX11_addContour_ok 34 rfl) rfl ?_
                refine go_callS (n2 := 0) (q := 66) kX11_99 ctX11_isCoordinate (gDec iX11_addContour_ok 35 rfl) rfl rfl (Nat.le_of_ble_eq_true rfl) rfl (gFit_rm (by decide) (by decide)) rfl ?_
                refine go_if_eq (t := 73) (q := 69) (gDec iX11_addContour_ok 36 rfl) (by decide) rfl (fun c66 => ?_) (fun c66 => ?_)
                · refine go_iconst (v := nI 0) (q := 74) (gDec iX11_addContour_ok 39 rfl) (by decide) rfl ?_
                  refine go_istore (q := 76) (gDec iX11_addContour_ok 40 rfl) (by decide) rfl ?_
                  refine go_aload_n (q := 77) (gDec iX11_addContour_ok 41 rfl) rfl rfl rfl ?_
                  refine go_aload_n (q := 78) (gDec iX11_addContour_ok 42 rfl) rfl rfl rfl ?_
                  refine go_geti (q := 81) fX11_54 (gDec iX11_addContour_ok 43 rfl) rfl (by decide) rfl ?_
                  refine go_top (v' := nI 0) rfl ?_
                  refine go_if_le (t := 91) (q := 84) (gDec iX11_addContour_ok 44 rfl) (by decide) rfl (fun c81 => ?_) (fun c81 => False.elim (c81 (by decide)))
                  refine go_iload (q := 93) (gDec iX11_addContour_ok 48 rfl) rfl rfl ?_
                  refine go_if_ne (t := 100) (q := 96) (gDec iX11_addContour_ok 49 rfl) (by decide) rfl (fun c93 => False.elim (absurd c93 (by decide))) (fun c93 => ?_)
                  refine go_iconst (v := nI 2) (q := 97) (gDec iX11_addContour_ok 50 rfl) (by decide) rfl ?_
                  refine go_goto (t := 115) (gDec iX11_addContour_ok 51 rfl) (by decide) ?_
                  refine go_puti (q := 118) fX11_54 gft11 (gDec iX11_addContour_ok 61 rfl) rfl (by decide) rfl rfl rfl rfl ?_
                  refine go_aload_n (q := 119) (gDec iX11_addContour_ok 62 rfl) rfl rfl rfl ?_
                  refine go_geti (q := 122) fX11_54 (gDec iX11_addContour_ok 63 rfl) rfl (by decide) rfl ?_
                  refine go_top (v' := nI 2) rfl ?_
                  refine go_if_le (t := 127) (q := 125) (gDec iX11_addContour_ok 64 rfl) (by decide) rfl (fun c122 => False.elim (absurd c122 (by decide))) (fun c122 => ?_)
                  refine go_iconst (v := nI 0) (q := 126) (gDec iX11_addContour_ok 65 rfl) (by decide) rfl ?_
                  exact go_ireturn (gDec iX11_addContour_ok 66 rfl) rfl rfl rfl (gPut_2x (congrArg (gPut σ 376 5) xc_OAS_A)) (by decide)
                · have k1 := gWi_1 c34
                  have k2 := gWi_1 c42
                  have k3 := gWi_1 c54
                  have k4 := gWi_1 c66
                  rw [i2l_toInt] at k1 k2
                  rw [l_add] at k3 k4
                  exact (h3 ⟨⟨⟨i_one_lt.mp c20, i_one_lt.mp c26⟩, k1, k2⟩, k3, k4⟩).elim
  · rw [show fAddContour τ g x y w h0 = (xIOB, τ) from if_neg h1]
    refine gOK.rd h rfl ?_
    refine ct_of (by decide +kernel) rfl (Nat.le_of_ble_eq_true rfl) rfl ?_
    refine go_aload_n (q := 1) (gDec iX11_addContour_ok 0 rfl) rfl rfl rfl ?_
    refine go_aload_n (q := 2) (gDec iX11_addContour_ok 1 rfl) rfl rfl rfl ?_
    refine go_iload_n (q := 3) (gDec iX11_addContour_ok 2 rfl) rfl rfl rfl ?_
    refine go_callV (n2 := 0) (q := 6) kX11_65 (ctX11_isGlyph (τ := τ) hW hM) (gDec iX11_addContour_ok 3 rfl) rfl rfl (by decide) rfl rfl rfl (Nat.le_of_ble_eq_true rfl) rfl (gFit_rm (by decide) (by decide)) rfl ?_
    refine go_top (v' := 0) (gWi_f (by (try rw [i2l_toInt]); exact h1)) ?_
    refine go_if_eq (t := 13) (q := 9) (gDec iX11_addContour_ok 4 rfl) (by decide) rfl (fun c6 => ?_) (fun c6 => False.elim (c6 rfl))
    refine go_iconst (v := nI 1) (q := 14) (gDec iX11_addContour_ok 7 rfl) (by decide) rfl ?_
    refine go_puti (q := 17) fX11_54 gft11 (gDec iX11_addContour_ok 8 rfl) rfl (by decide) rfl rfl rfl rfl ?_
    refine go_iload (q := 19) (gDec iX11_addContour_ok 9 rfl) rfl rfl ?_
    refine go_iconst (v := nI 1) (q := 20) (gDec iX11_addContour_ok 10 rfl) (by decide) rfl ?_
    refine go_icmp_lt (t := 73) (q := 23) (gDec iX11_addContour_ok 11 rfl) (by decide) rfl (fun c20 => ?_) (fun c20 => ?_)
    · refine go_iconst (v := nI 0) (q := 74) (gDec iX11_addContour_ok 39 rfl) (by decide) rfl ?_
      refine go_istore (q := 76) (gDec iX11_addContour_ok 40 rfl) (by decide) rfl ?_
      refine go_aload_n (q := 77) (gDec iX11_addContour_ok 41 rfl) rfl rfl rfl ?_
      refine go_aload_n (q := 78) (gDec iX11_addContour_ok 42 rfl) rfl rfl rfl ?_
      refine go_geti (q := 81) fX11_54 (gDec iX11_addContour_ok 43 rfl) rfl (by decide) rfl ?_
      refine go_top (v' := nI 1) rfl ?_
      refine go_if_le (t := 91) (q := 84) (gDec iX11_addContour_ok 44 rfl) (by decide) rfl (fun c81 => False.elim (absurd c81 (by decide))) (fun c81 => ?_)
      refine go_aload_n (q := 85) (gDec iX11_addContour_ok 45 rfl) rfl rfl rfl ?_
      refine go_geti (q := 88) fX11_54 (gDec iX11_addContour_ok 46 rfl) rfl (by decide) rfl ?_
      refine go_top (v' := nI 1) rfl ?_
      refine go_goto (t := 115) (gDec iX11_addContour_ok 47 rfl) (by decide) ?_
      refine go_puti (q := 118) fX11_54 gft11 (gDec iX11_addContour_ok 61 rfl) rfl (by decide) rfl rfl rfl rfl ?_
      refine go_aload_n (q := 119) (gDec iX11_addContour_ok 62 rfl) rfl rfl rfl ?_
      refine go_geti (q := 122) fX11_54 (gDec iX11_addContour_ok 63 rfl) rfl (by decide) rfl ?_
      refine go_top (v' := nI 1) rfl ?_
      refine go_if_le (t := 127) (q := 125) (gDec iX11_addContour_ok 64 rfl) (by decide) rfl (fun c122 => False.elim (absurd c122 (by decide))) (fun c122 => ?_)
      refine go_iconst (v := nI 0) (q := 126) (gDec iX11_addContour_ok 65 rfl) (by decide) rfl ?_
      exact go_ireturn (gDec iX11_addContour_ok 66 rfl) rfl rfl rfl (gPut_2x (congrArg (gPut σ 376 5) xc_OAS_O)) (by decide)
    · refine go_iload (q := 25) (gDec iX11_addContour_ok 12 rfl) rfl rfl ?_
      refine go_iconst (v := nI 1) (q := 26) (gDec iX11_addContour_ok 13 rfl) (by decide) rfl ?_
      refine go_icmp_lt (t := 73) (q := 29) (gDec iX11_addContour_ok 14 rfl) (by decide) rfl (fun c26 => ?_) (fun c26 => ?_)
      · refine go_iconst (v := nI 0) (q := 74) (gDec iX11_addContour_ok 39 rfl) (by decide) rfl ?_
        refine go_istore (q := 76) (gDec iX11_addContour_ok 40 rfl) (by decide) rfl ?_
        refine go_aload_n (q := 77) (gDec iX11_addContour_ok 41 rfl) rfl rfl rfl ?_
        refine go_aload_n (q := 78) (gDec iX11_addContour_ok 42 rfl) rfl rfl rfl ?_
        refine go_geti (q := 81) fX11_54 (gDec iX11_addContour_ok 43 rfl) rfl (by decide) rfl ?_
        refine go_top (v' := nI 1) rfl ?_
        refine go_if_le (t := 91) (q := 84) (gDec iX11_addContour_ok 44 rfl) (by decide) rfl (fun c81 => False.elim (absurd c81 (by decide))) (fun c81 => ?_)
        refine go_aload_n (q := 85) (gDec iX11_addContour_ok 45 rfl) rfl rfl rfl ?_
        refine go_geti (q := 88) fX11_54 (gDec iX11_addContour_ok 46 rfl) rfl (by decide) rfl ?_
        refine go_top (v' := nI 1) rfl ?_
        refine go_goto (t := 115) (gDec iX11_addContour_ok 47 rfl) (by decide) ?_
        refine go_puti (q := 118) fX11_54 gft11 (gDec iX11_addContour_ok 61 rfl) rfl (by decide) rfl rfl rfl rfl ?_
        refine go_aload_n (q := 119) (gDec iX11_addContour_ok 62 rfl) rfl rfl rfl ?_
        refine go_geti (q := 122) fX11_54 (gDec iX11_addContour_ok 63 rfl) rfl (by decide) rfl ?_
        refine go_top (v' := nI 1) rfl ?_
        refine go_if_le (t := 127) (q := 125) (gDec iX11_addContour_ok 64 rfl) (by decide) rfl (fun c122 => False.elim (absurd c122 (by decide))) (fun c122 => ?_)
        refine go_iconst (v := nI 0) (q := 126) (gDec iX11_addContour_ok 65 rfl) (by decide) rfl ?_
        exact go_ireturn (gDec iX11_addContour_ok 66 rfl) rfl rfl rfl (gPut_2x (congrArg (gPut σ 376 5) xc_OAS_O)) (by decide)
      · refine go_iload_n (q := 30) (gDec iX11_addContour_ok 15 rfl) rfl rfl rfl ?_
        refine go_i2l (q := 31) (gDec iX11_addContour_ok 16 rfl) rfl ?_
        refine go_callS (n2 := 0) (q := 34) kX11_99 ctX11_isCoordinate (gDec iX11_addContour_ok 17 rfl) rfl rfl (Nat.le_of_ble_eq_true rfl) rfl (gFit_rm (by decide) (by decide)) rfl ?_
        refine go_if_eq (t := 73) (q := 37) (gDec iX11_addContour_ok 18 rfl) (by decide) rfl (fun c34 => ?_) (fun c34 => ?_)
        · refine go_iconst (v := nI 0) (q := 74) (gDec iX11_addContour_ok 39 rfl) (by decide) rfl ?_
          refine go_istore (q := 76) (gDec iX11_addContour_ok 40 rfl) (by decide) rfl ?_
          refine go_aload_n (q := 77) (gDec iX11_addContour_ok 41 rfl) rfl rfl rfl ?_
          refine go_aload_n (q := 78) (gDec iX11_addContour_ok 42 rfl) rfl rfl rfl ?_
          refine go_geti (q := 81) fX11_54 (gDec iX11_addContour_ok 43 rfl) rfl (by decide) rfl ?_
          refine go_top (v' := nI 1) rfl ?_
          refine go_if_le (t := 91) (q := 84) (gDec iX11_addContour_ok 44 rfl) (by decide) rfl (fun c81 => False.elim (absurd c81 (by decide))) (fun c81 => ?_)
          refine go_aload_n (q := 85) (gDec iX11_addContour_ok 45 rfl) rfl rfl rfl ?_
          refine go_geti (q := 88) fX11_54 (gDec iX11_addContour_ok 46 rfl) rfl (by decide) rfl ?_
          refine go_top (v' := nI 1) rfl ?_
          refine go_goto (t := 115) (gDec iX11_addContour_ok 47 rfl) (by decide) ?_
          refine go_puti (q := 118) fX11_54 gft11 (gDec iX11_addContour_ok 61 rfl) rfl (by decide) rfl rfl rfl rfl ?_
          refine go_aload_n (q := 119) (gDec iX11_addContour_ok 62 rfl) rfl rfl rfl ?_
          refine go_geti (q := 122) fX11_54 (gDec iX11_addContour_ok 63 rfl) rfl (by decide) rfl ?_
          refine go_top (v' := nI 1) rfl ?_
          refine go_if_le (t := 127) (q := 125) (gDec iX11_addContour_ok 64 rfl) (by decide) rfl (fun c122 => False.elim (absurd c122 (by decide))) (fun c122 => ?_)
          refine go_iconst (v := nI 0) (q := 126) (gDec iX11_addContour_ok 65 rfl) (by decide) rfl ?_
          exact go_ireturn (gDec iX11_addContour_ok 66 rfl) rfl rfl rfl (gPut_2x (congrArg (gPut σ 376 5) xc_OAS_O)) (by decide)
        · refine go_iload_n (q := 38) (gDec iX11_addContour_ok 19 rfl) rfl rfl rfl ?_
          refine go_i2l (q := 39) (gDec iX11_addContour_ok 20 rfl) rfl ?_
          refine go_callS (n2 := 0) (q := 42) kX11_99 ctX11_isCoordinate (gDec iX11_addContour_ok 21 rfl) rfl rfl (Nat.le_of_ble_eq_true rfl) rfl (gFit_rm (by decide) (by decide)) rfl ?_
          refine go_if_eq (t := 73) (q := 45) (gDec iX11_addContour_ok 22 rfl) (by decide) rfl (fun c42 => ?_) (fun c42 => ?_)
          · refine go_iconst (v := nI 0) (q := 74) (gDec iX11_addContour_ok 39 rfl) (by decide) rfl ?_
            refine go_istore (q := 76) (gDec iX11_addContour_ok 40 rfl) (by decide) rfl ?_
            refine go_aload_n (q := 77) (gDec iX11_addContour_ok 41 rfl) rfl rfl rfl ?_
            refine go_aload_n (q := 78) (gDec iX11_addContour_ok 42 rfl) rfl rfl rfl ?_
            refine go_geti (q := 81) fX11_54 (gDec iX11_addContour_ok 43 rfl) rfl (by decide) rfl ?_
            refine go_top (v' := nI 1) rfl ?_
            refine go_if_le (t := 91) (q := 84) (gDec iX11_addContour_ok 44 rfl) (by decide) rfl (fun c81 => False.elim (absurd c81 (by decide))) (fun c81 => ?_)
            refine go_aload_n (q := 85) (gDec iX11_addContour_ok 45 rfl) rfl rfl rfl ?_
            refine go_geti (q := 88) fX11_54 (gDec iX11_addContour_ok 46 rfl) rfl (by decide) rfl ?_
            refine go_top (v' := nI 1) rfl ?_
            refine go_goto (t := 115) (gDec iX11_addContour_ok 47 rfl) (by decide) ?_
            refine go_puti (q := 118) fX11_54 gft11 (gDec iX11_addContour_ok 61 rfl) rfl (by decide) rfl rfl rfl rfl ?_
            refine go_aload_n (q := 119) (gDec iX11_addContour_ok 62 rfl) rfl rfl rfl ?_
            refine go_geti (q := 122) fX11_54 (gDec iX11_addContour_ok 63 rfl) rfl (by decide) rfl ?_
            refine go_top (v' := nI 1) rfl ?_
            refine go_if_le (t := 127) (q := 125) (gDec iX11_addContour_ok 64 rfl) (by decide) rfl (fun c122 => False.elim (absurd c122 (by decide))) (fun c122 => ?_)
            refine go_iconst (v := nI 0) (q := 126) (gDec iX11_addContour_ok 65 rfl) (by decide) rfl ?_
            exact go_ireturn (gDec iX11_addContour_ok 66 rfl) rfl rfl rfl (gPut_2x (congrArg (gPut σ 376 5) xc_OAS_O)) (by decide)
          · refine go_iload_n (q := 46) (gDec iX11_addContour_ok 23 rfl) rfl rfl rfl ?_
            refine go_i2l (q := 47) (gDec iX11_addContour_ok 24 rfl) rfl ?_
            refine go_iload (q := 49) (gDec iX11_addContour_ok 25 rfl) rfl rfl ?_
            refine go_i2l (q := 50) (gDec iX11_addContour_ok 26 rfl) rfl ?_
            refine go_ladd (q := 51) (gDec iX11_addContour_ok 27 rfl) rfl ?_
            refine go_callS (n2 := 0) (q := 54) kX11_99 ctX11_isCoordinate (gDec iX11_addContour_ok 28 rfl) rfl rfl (Nat.le_of_ble_eq_true rfl) rfl (gFit_rm (by decide) (by decide)) rfl ?_
            refine go_if_eq (t := 73) (q := 57) (gDec iX11_addContour_ok 29 rfl) (by decide) rfl (fun c54 => ?_) (fun c54 => ?_)
            · refine go_iconst (v := nI 0) (q := 74) (gDec iX11_addContour_ok 39 rfl) (by decide) rfl ?_
              refine go_istore (q := 76) (gDec iX11_addContour_ok 40 rfl) (by decide) rfl ?_
              refine go_aload_n (q := 77) (gDec iX11_addContour_ok 41 rfl) rfl rfl rfl ?_
              refine go_aload_n (q := 78) (gDec iX11_addContour_ok 42 rfl) rfl rfl rfl ?_
              refine go_geti (q := 81) fX11_54 (gDec iX11_addContour_ok 43 rfl) rfl (by decide) rfl ?_
              refine go_top (v' := nI 1) rfl ?_
              refine go_if_le (t := 91) (q := 84) (gDec iX11_addContour_ok 44 rfl) (by decide) rfl (fun c81 => False.elim (absurd c81 (by decide))) (fun c81 => ?_)
              refine go_aload_n (q := 85) (gDec iX11_addContour_ok 45 rfl) rfl rfl rfl ?_
              refine go_geti (q := 88) fX11_54 (gDec iX11_addContour_ok 46 rfl) rfl (by decide) rfl ?_
              refine go_top (v' := nI 1) rfl ?_
              refine go_goto (t := 115) (gDec iX11_addContour_ok 47 rfl) (by decide) ?_
              refine go_puti (q := 118) fX11_54 gft11 (gDec iX11_addContour_ok 61 rfl) rfl (by decide) rfl rfl rfl rfl ?_
              refine go_aload_n (q := 119) (gDec iX11_addContour_ok 62 rfl) rfl rfl rfl ?_
              refine go_geti (q := 122) fX11_54 (gDec iX11_addContour_ok 63 rfl) rfl (by decide) rfl ?_
              refine go_top (v' := nI 1) rfl ?_
              refine go_if_le (t := 127) (q := 125) (gDec iX11_addContour_ok 64 rfl) (by decide) rfl (fun c122 => False.elim (absurd c122 (by decide))) (fun c122 => ?_)
              refine go_iconst (v := nI 0) (q := 126) (gDec iX11_addContour_ok 65 rfl) (by decide) rfl ?_
              exact go_ireturn (gDec iX11_addContour_ok 66 rfl) rfl rfl rfl (gPut_2x (congrArg (gPut σ 376 5) xc_OAS_O)) (by decide)
            · refine go_iload_n (q := 58) (gDec iX11_addContour_ok 30 rfl) rfl rfl rfl ?_
              refine go_i2l (q := 59) (gDec iX11_addContour_ok 31 rfl) rfl ?_
              refine go_iload (q := 61) (gDec iX11_addContour_ok 32 rfl) rfl rfl ?_
              refine go_i2l (q := 62) (gDec iX11_addContour_ok 33 rfl) rfl ?_
              refine go_ladd (q := 63) (gDec iX11_addContour_ok 34 rfl) rfl ?_
              refine go_callS (n2 := 0) (q := 66) kX11_99 ctX11_isCoordinate (gDec iX11_addContour_ok 35 rfl) rfl rfl (Nat.le_of_ble_eq_true rfl) rfl (gFit_rm (by decide) (by decide)) rfl ?_
              refine go_if_eq (t := 73) (q := 69) (gDec iX11_addContour_ok 36 rfl) (by decide) rfl (fun c66 => ?_) (fun c66 => ?_)
              · refine go_iconst (v := nI 0) (q := 74) (gDec iX11_addContour_ok 39 rfl) (by decide) rfl ?_
                refine go_istore (q := 76) (gDec iX11_addContour_ok 40 rfl) (by decide) rfl ?_
                refine go_aload_n (q := 77) (gDec iX11_addContour_ok 41 rfl) rfl rfl rfl ?_
                refine go_aload_n (q := 78) (gDec iX11_addContour_ok 42 rfl) rfl rfl rfl ?_
                refine go_geti (q := 81) fX11_54 (gDec iX11_addContour_ok 43 rfl) rfl (by decide) rfl ?_
                refine go_top (v' := nI 1) rfl ?_
                refine go_if_le (t := 91) (q := 84) (gDec iX11_addContour_ok 44 rfl) (by decide) rfl (fun c81 => False.elim (absurd c81 (by decide))) (fun c81 => ?_)
                refine go_aload_n (q := 85) (gDec iX11_addContour_ok 45 rfl) rfl rfl rfl ?_
                refine go_geti (q := 88) fX11_54 (gDec iX11_addContour_ok 46 rfl) rfl (by decide) rfl ?_
                refine go_top (v' := nI 1) rfl ?_
                refine go_goto (t := 115) (gDec iX11_addContour_ok 47 rfl) (by decide) ?_
                refine go_puti (q := 118) fX11_54 gft11 (gDec iX11_addContour_ok 61 rfl) rfl (by decide) rfl rfl rfl rfl ?_
                refine go_aload_n (q := 119) (gDec iX11_addContour_ok 62 rfl) rfl rfl rfl ?_
                refine go_geti (q := 122) fX11_54 (gDec iX11_addContour_ok 63 rfl) rfl (by decide) rfl ?_
                refine go_top (v' := nI 1) rfl ?_
                refine go_if_le (t := 127) (q := 125) (gDec iX11_addContour_ok 64 rfl) (by decide) rfl (fun c122 => False.elim (absurd c122 (by decide))) (fun c122 => ?_)
                refine go_iconst (v := nI 0) (q := 126) (gDec iX11_addContour_ok 65 rfl) (by decide) rfl ?_
                exact go_ireturn (gDec iX11_addContour_ok 66 rfl) rfl rfl rfl (gPut_2x (congrArg (gPut σ 376 5) xc_OAS_O)) (by decide)
              · refine go_iconst (v := nI 1) (q := 70) (gDec iX11_addContour_ok 37 rfl) (by decide) rfl ?_
                refine go_goto (t := 74) (gDec iX11_addContour_ok 38 rfl) (by decide) ?_
                refine go_istore (q := 76) (gDec iX11_addContour_ok 40 rfl) (by decide) rfl ?_
                refine go_aload_n (q := 77) (gDec iX11_addContour_ok 41 rfl) rfl rfl rfl ?_
                refine go_aload_n (q := 78) (gDec iX11_addContour_ok 42 rfl) rfl rfl rfl ?_
                refine go_geti (q := 81) fX11_54 (gDec iX11_addContour_ok 43 rfl) rfl (by decide) rfl ?_
                refine go_top (v' := nI 1) rfl ?_
                refine go_if_le (t := 91) (q := 84) (gDec iX11_addContour_ok 44 rfl) (by decide) rfl (fun c81 => False.elim (absurd c81 (by decide))) (fun c81 => ?_)
                refine go_aload_n (q := 85) (gDec iX11_addContour_ok 45 rfl) rfl rfl rfl ?_
                refine go_geti (q := 88) fX11_54 (gDec iX11_addContour_ok 46 rfl) rfl (by decide) rfl ?_
                refine go_top (v' := nI 1) rfl ?_
                refine go_goto (t := 115) (gDec iX11_addContour_ok 47 rfl) (by decide) ?_
                refine go_puti (q := 118) fX11_54 gft11 (gDec iX11_addContour_ok 61 rfl) rfl (by decide) rfl rfl rfl rfl ?_
                refine go_aload_n (q := 119) (gDec iX11_addContour_ok 62 rfl) rfl rfl rfl ?_
                refine go_geti (q := 122) fX11_54 (gDec iX11_addContour_ok 63 rfl) rfl (by decide) rfl ?_
                refine go_top (v' := nI 1) rfl ?_
                refine go_if_le (t := 127) (q := 125) (gDec iX11_addContour_ok 64 rfl) (by decide) rfl (fun c122 => False.elim (absurd c122 (by decide))) (fun c122 => ?_)
                refine go_iconst (v := nI 0) (q := 126) (gDec iX11_addContour_ok 65 rfl) (by decide) rfl ?_
                exact go_ireturn (gDec iX11_addContour_ok 66 rfl) rfl rfl rfl (gPut_2x (congrArg (gPut σ 376 5) xc_OAS_O)) (by decide)
