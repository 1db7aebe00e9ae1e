/-- only contours change -/
theorem gCI.con {τ τ' : gST} (hC : gCI τ) (ho : ∀ k, 1 ≤ k → k < 36 → k ≠ 6 → k ≠ 8 → k ≠ 10 → k ≠ 12 → τ'.1 k = τ.1 k) (h6 : gBd (τ'.1 6) 24 0 3) (h8 : gBd (τ'.1 8) 72 0 12) (hP : gPO τ') (h60 : ∀ g, gNg τ ≤ g → g < 24 → τ'.1 6 g = 0) : gCI τ' := by
  have hW := hC.dw
  have hH : ∀ k, 1 ≤ k → k < 36 → (k ≠ 6 ∧ k ≠ 8 ∧ k ≠ 10 ∧ k ≠ 12) → τ'.1 k = τ.1 k := fun k q0 q1 q2 => ho k q0 q1 q2.1 q2.2.1 q2.2.2.1 q2.2.2.2
  have e : gNg τ' = gNg τ := by unfold gNg; rw [hH 2 (by decide) (by decide) (by decide)]
  refine ⟨⟨?_, h6, h8, ?_, ?_, ?_, ?_⟩, ?_, hP, ⟨?_, ?_⟩, ?_, ?_⟩
  · rw [hH 2 (by decide) (by decide) (by decide)]; exact hW.1
  · rw [hH 17 (by decide) (by decide) (by decide)]; exact hW.2.2.2.1
  · rw [hH 22 (by decide) (by decide) (by decide)]; exact hW.2.2.2.2.1
  · rw [hH 24 (by decide) (by decide) (by decide)]; exact hW.2.2.2.2.2.1
  · rw [hH 31 (by decide) (by decide) (by decide)]; exact hW.2.2.2.2.2.2
  · exact hC.lw.c (hH 2 (by decide) (by decide) (by decide)) (hH 17 (by decide) (by decide) (by decide))
  · rw [e, hH 4 (by decide) (by decide) (by decide)]; exact hC.gw.1
  · rw [e, hH 31 (by decide) (by decide) (by decide), hH 22 (by decide) (by decide) (by decide), hH 24 (by decide) (by decide) (by decide), hH 15 (by decide) (by decide) (by decide)]
    intro g hg hg2
    exact ⟨h60 g hg hg2, (hC.gw.2 g hg hg2).2⟩
  · exact hC.sw.c (hH 2 (by decide) (by decide) (by decide)) (hH 31 (by decide) (by decide) (by decide)) (hH 33 (by decide) (by decide) (by decide)) (hH 35 (by decide) (by decide) (by decide))
  · exact hC.kw.c (hH 26 (by decide) (by decide) (by decide)) (hH 28 (by decide) (by decide) (by decide)) (hH 20 (by decide) (by decide) (by decide)) (hH 1 (by decide) (by decide) (by decide))
/-- only glyph i's contours change -/
theorem gMR.con {τ τ' : gST} {s s' : Nat → Int32} {i : Nat} (hM : gMR τ s) (hW : gDW τ) (hi : i < gNg τ) (ho : ∀ k, 1 ≤ k → k < 36 → k ≠ 6 → k ≠ 8 → k ≠ 10 → k ≠ 12 → τ'.1 k = τ.1 k)
    (e6 : ∀ g, g ≠ i → g < 24 → τ'.1 6 g = τ.1 6 g) (e8 : ∀ g c, g ≠ i → g < 24 → c < 3 → τ'.1 8 (g * 3 + c) = τ.1 8 (g * 3 + c)) (e10 : ∀ g x, g ≠ i → g < 24 → x < 36 → τ'.1 10 (g * 36 + x) = τ.1 10 (g * 36 + x) ∧ τ'.1 12 (g * 36 + x) = τ.1 12 (g * 36 + x))
    (hs : ∀ x, ¬ (196 + 96 * i + 1 ≤ x ∧ x < 196 + 96 * i + 77) → s' x = s x) (n1 : s' (196 + 96 * i + 1) = τ'.1 6 i) (n2 : ∀ c, c < gNc τ' i → s' (196 + 96 * i + (2 + c)) = τ'.1 8 (i * 3 + c))
    (n3 : ∀ c p, c < gNc τ' i → p < gNp τ' i c → s' (196 + 96 * i + (5 + 2 * (12 * c + p))) = τ'.1 10 ((i * 3 + c) * 12 + p) ∧ s' (196 + 96 * i + (5 + 2 * (12 * c + p)) + 1) = τ'.1 12 ((i * 3 + c) * 12 + p)) : gMR τ' s' := by
  have h24 := hW.ng24
  have hH : ∀ k, 1 ≤ k → k < 36 → (k ≠ 6 ∧ k ≠ 8 ∧ k ≠ 10 ∧ k ≠ 12) → τ'.1 k = τ.1 k := fun k q0 q1 q2 => ho k q0 q1 q2.1 q2.2.1 q2.2.2.1 q2.2.2.2
  refine hM.upd (hH 1 (by decide) (by decide) (by decide)) (hH 2 (by decide) (by decide) (by decide)) (hH 20 (by decide) (by decide) (by decide)) (hH 26 (by decide) (by decide) (by decide)) (hH 28 (by decide) (by decide) (by decide)) (fun x hx => hs x (by omega)) (fun g hg hG => ?_)
  by_cases hgi : g = i
  · subst hgi
    exact hG.new_con hW (by omega) (hH 15 (by decide) (by decide) (by decide)) (hH 17 (by decide) (by decide) (by decide)) (hH 19 (by decide) (by decide) (by decide)) (hH 22 (by decide) (by decide) (by decide)) (hH 24 (by decide) (by decide) (by decide)) (hH 31 (by decide) (by decide) (by decide)) (hH 33 (by decide) (by decide) (by decide)) (hH 35 (by decide) (by decide) (by decide)) (hH 4 (by decide) (by decide) (by decide)) (fun x q1 q2 q3 => hs x (by omega)) n1 n2 n3
  · exact hG.same hW (by omega) (fun x q1 q2 => hs x (by omega)) (congrFun (hH 4 (by decide) (by decide) (by decide)) _) (e6 g hgi (by omega)) (fun c hc => e8 g c hgi (by omega) hc) (fun x hx => (e10 g x hgi (by omega) hx).1) (fun x hx => (e10 g x hgi (by omega) hx).2) (fun _ _ => congrFun (hH 15 (by decide) (by decide) (by decide)) _) (fun _ _ => congrFun (hH 17 (by decide) (by decide) (by decide)) _) (fun _ _ => congrFun (hH 19 (by decide) (by decide) (by decide)) _) (congrFun (hH 22 (by decide) (by decide) (by decide)) _) (congrFun (hH 24 (by decide) (by decide) (by decide)) _) (congrFun (hH 31 (by decide) (by decide) (by decide)) _) (fun _ _ => congrFun (hH 33 (by decide) (by decide) (by decide)) _) (fun _ _ => congrFun (hH 35 (by decide) (by decide) (by decide)) _)

set_option maxHeartbeats 4000000 in
set_option maxRecDepth 100000 in
theorem ctX11_setPoint {κ : gK} {σ : gST} {g c p : Nat} {x y : Int32} (hg : g < 24) (hc : c < 3) (hp : p < 12) : gCt κ mX11_setPoint 2 [.ref (κ.2.1 + 376), .int (nI g), .int (nI c), .int (nI p), .int x, .int y] σ (.inl none) (gPut (gPut σ 377 (196 + 96 * g + (5 + 2 * (12 * c + p))) x) 377 (196 + 96 * g + (5 + 2 * (12 * c + p)) + 1) y) 0 := by
  refine ct_of (by decide +kernel) rfl (Nat.le_of_ble_eq_true rfl) rfl ?_
  refine go_aload_n (q := 1) (gDec iX11_setPoint_ok 0 rfl) rfl rfl rfl ?_
  refine go_getr (r' := 377) (q := 4) fX11_9 (gDec iX11_setPoint_ok 1 rfl) rfl (by decide) rfl ?_
  refine go_iload_n (q := 5) (gDec iX11_setPoint_ok 2 rfl) rfl rfl rfl ?_
  refine go_iload_n (q := 6) (gDec iX11_setPoint_ok 3 rfl) rfl rfl rfl ?_
  refine go_iload_n (q := 7) (gDec iX11_setPoint_ok 4 rfl) rfl rfl rfl ?_
  refine go_callS (n2 := 0) (q := 10) kX11_95 (ctX11_pointAt (g := g) (c := c) (p := p)) (gDec iX11_setPoint_ok 5 rfl) rfl rfl (Nat.le_of_ble_eq_true rfl) rfl (gFit_rm (by decide) (by decide)) rfl ?_
  refine go_iload (q := 12) (gDec iX11_setPoint_ok 6 rfl) rfl rfl ?_
  refine go_iastN (q := 13) (gDec iX11_setPoint_ok 7 rfl) rfl (by decide) (by omega) (by decide) rfl ?_
  refine go_aload_n (q := 14) (gDec iX11_setPoint_ok 8 rfl) rfl rfl rfl ?_
  refine go_getr (r' := 377) (q := 17) fX11_9 (gDec iX11_setPoint_ok 9 rfl) rfl (by decide) rfl ?_
  refine go_iload_n (q := 18) (gDec iX11_setPoint_ok 10 rfl) rfl rfl rfl ?_
  refine go_iload_n (q := 19) (gDec iX11_setPoint_ok 11 rfl) rfl rfl rfl ?_
  refine go_iload_n (q := 20) (gDec iX11_setPoint_ok 12 rfl) rfl rfl rfl ?_
  refine go_callS (n2 := 0) (q := 23) kX11_95 (ctX11_pointAt (g := g) (c := c) (p := p)) (gDec iX11_setPoint_ok 13 rfl) rfl rfl (Nat.le_of_ble_eq_true rfl) rfl (gFit_rm (by decide) (by decide)) rfl ?_
  refine go_iconst (v := nI 1) (q := 24) (gDec iX11_setPoint_ok 14 rfl) (by decide) rfl ?_
  refine go_iaddN (c := 196 + 96 * g + (5 + 2 * (12 * c + p)) + 1) (q := 25) (gDec iX11_setPoint_ok 15 rfl) rfl rfl ?_
  refine go_iload (q := 27) (gDec iX11_setPoint_ok 16 rfl) rfl rfl ?_
  refine go_iastN (q := 28) (gDec iX11_setPoint_ok 17 rfl) rfl (by decide) (by omega) (by decide) rfl ?_
  exact go_return (gDec iX11_setPoint_ok 18 rfl) rfl rfl rfl (by decide)

theorem mt_move {ρ : gST} {s : Nat → Int32} {i j q : Nat} {x y : Int32} (hC : gCI ρ) (hM : gMR ρ s) (hi : i < gNg ρ) (hj : j < gNc ρ i) (hq : q < gNp ρ i j) (hx : -200 ≤ x.toInt ∧ x.toInt ≤ 1200) (hy : -200 ≤ y.toInt ∧ y.toInt ≤ 1200) :
    gCI (gPut (gPut ρ 10 ((i * 3 + j) * 12 + q) x) 12 ((i * 3 + j) * 12 + q) y) ∧ gMR (gPut (gPut ρ 10 ((i * 3 + j) * 12 + q) x) 12 ((i * 3 + j) * 12 + q) y) (upd (upd s (196 + 96 * i + (5 + 2 * (12 * j + q))) x) ((196 + 96 * i + (5 + 2 * (12 * j + q))) + 1) y) := by
  have hW := hC.dw
  have h24 := hW.ng24
  have hc3 := hW.nc3 (g := i) (by omega)
  have h12 := hW.np12 (g := i) (c := j) (by omega) (by omega)
  obtain ⟨τ', hτ⟩ : ∃ τ', τ' = gPut (gPut ρ 10 ((i * 3 + j) * 12 + q) x) 12 ((i * 3 + j) * 12 + q) y := ⟨_, rfl⟩
  have ho : ∀ k, k ≠ 10 → k ≠ 12 → τ'.1 k = ρ.1 k := fun k q1 q2 => by rw [hτ, gPut_ne _ _ _ q2, gPut_ne _ _ _ q1]
  have e10 : ∀ a, τ'.1 10 a = if a = ((i * 3 + j) * 12 + q) then x else ρ.1 10 a := fun a => by rw [hτ, gPut_ne _ _ _ (by decide), gPut_s, uN]
  have e12 : ∀ a, τ'.1 12 a = if a = ((i * 3 + j) * 12 + q) then y else ρ.1 12 a := fun a => by rw [hτ, gPut_s, uN, gPut_ne _ _ _ (by decide)]
  rw [← hτ]
  have eng : gNg τ' = gNg ρ := by unfold gNg; rw [ho 2 (by decide) (by decide)]
  have enc : ∀ g, gNc τ' g = gNc ρ g := fun g => by unfold gNc; rw [ho 6 (by decide) (by decide)]
  have enp : ∀ g c, gNp τ' g c = gNp ρ g c := fun g c => by unfold gNp; rw [ho 8 (by decide) (by decide)]
  refine ⟨hC.con (fun k _ _ _ _ q3 q4 => ho k q3 q4) (by rw [ho 6 (by decide) (by decide)]; exact hW.2.1) (by rw [ho 8 (by decide) (by decide)]; exact hW.2.2.1) ⟨?_, ?_⟩ (by rw [ho 6 (by decide) (by decide)]; exact fun g h1 h2 => (hC.gw.2 g h1 h2).1), hM.con hW hi (fun k _ _ _ _ q3 q4 => ho k q3 q4) (fun g _ _ => congrFun (ho 6 (by decide) (by decide)) _) (fun g c _ _ _ => congrFun (ho 8 (by decide) (by decide)) _) (fun g x hg hg2 hx => ⟨by rw [e10, if_neg (by omega)], by rw [e12, if_neg (by omega)]⟩) (fun z hz => ?_) ?_ ?_ ?_⟩
  · rw [eng]
    intro g c hg hc
    rw [enc] at hc
    rw [enp]
    exact hC.po.1 g c hg hc
  · rw [eng]
    intro g c p hg hc hp
    rw [enc] at hc
    rw [enp] at hp
    obtain ⟨p1, p2⟩ := hC.po.2 g c p hg hc hp
    rw [e10, e12]
    split
    · exact ⟨hx, hy⟩
    · exact ⟨p1, p2⟩
  · rw [uN, if_neg (by omega), uN, if_neg (by omega)]
  · rw [uN, if_neg (by omega), uN, if_neg (by omega), ho 6 (by decide) (by decide)]; exact hM.nc0 hi rfl
  · rw [enc]
    intro c hc
    rw [uN, if_neg (by omega), uN, if_neg (by omega), ho 8 (by decide) (by decide)]; exact hM.np0 hi hc rfl
  · rw [enc]
    intro c p hc hp
    rw [enp] at hp
    have h12c := hW.np12 (g := i) (c := c) (by omega) (by omega)
    rw [e10, e12]
    by_cases hcp : c = j ∧ p = q
    · obtain ⟨rfl, rfl⟩ := hcp
      rw [if_pos rfl, if_pos rfl, uN, if_neg (by omega), uN, if_pos rfl]
      refine ⟨rfl, ?_⟩
      rw [uN, if_pos rfl]
    · have hne : ¬ (i * 3 + c) * 12 + p = ((i * 3 + j) * 12 + q) := by omega
      have u : ∀ z, z ≠ (196 + 96 * i + (5 + 2 * (12 * j + q))) → z ≠ (196 + 96 * i + (5 + 2 * (12 * j + q))) + 1 → upd (upd s (196 + 96 * i + (5 + 2 * (12 * j + q))) x) ((196 + 96 * i + (5 + 2 * (12 * j + q))) + 1) y z = s z := fun z q1 q2 => by rw [uN, if_neg q2, uN, if_neg q1]
      rw [if_neg hne, if_neg hne, u _ (by omega) (by omega), u _ (by omega) (by omega)]
      exact ⟨hM.px hi hc hp rfl, hM.py hi hc hp rfl⟩
theorem gCo_i {x dx : Int32} (h : -200 ≤ x.toInt + dx.toInt ∧ x.toInt + dx.toInt ≤ 1200) : (x + dx).toInt = x.toInt + dx.toInt := i_addB (by omega)

set_option maxHeartbeats 4000000 in
set_option maxRecDepth 100000 in
theorem okw_movePoint {κ : gK} {σ τ : gST} {i j q : Nat} {dx dy : Int32} (h : gAll τ σ) (h1 : gInP τ (nI i) (nI j) (nI q)) (hi : i < gNg τ) (hj : j < gNc τ i) (hq : q < gNp τ i j) (h2 : -200 ≤ (τ.1 10 ((i * 3 + j) * 12 + q)).toInt + dx.toInt ∧ (τ.1 10 ((i * 3 + j) * 12 + q)).toInt + dx.toInt ≤ 1200) (h3 : -200 ≤ (τ.1 12 ((i * 3 + j) * 12 + q)).toInt + dy.toInt ∧ (τ.1 12 ((i * 3 + j) * 12 + q)).toInt + dy.toInt ≤ 1200) : gCt κ mX11_movePoint 9 [.ref (κ.2.1 + 376), .int (nI i), .int (nI j), .int (nI q), .int dx, .int dy] σ (rI (τ.1 10 ((i * 3 + j) * 12 + q) + dx)) (gPut (gPut (gChg (gPut σ 376 5 0) (nA (τ.1 71 2))) 377 (196 + 96 * i + (5 + 2 * (12 * j + q))) (τ.1 10 ((i * 3 + j) * 12 + q) + dx)) 377 ((196 + 96 * i + (5 + 2 * (12 * j + q))) + 1) (τ.1 12 ((i * 3 + j) * 12 + q) + dy)) 0 := by
  have hC := h.ci
  have hM := h.mr
  have hW := hC.dw
  have h24 := hW.ng24
  have hc3 := hW.nc3 (g := i) (by omega)
  have h12 := hW.np12 (g := i) (c := j) (by omega) (by omega)
  refine ct_of (by decide +kernel) rfl (Nat.le_of_ble_eq_true rfl) rfl ?_
  refine go_aload_n (q := 1) (gDec iX11_movePoint_ok 0 rfl) rfl rfl rfl ?_
  refine go_aload_n (q := 2) (gDec iX11_movePoint_ok 1 rfl) rfl rfl rfl ?_
  refine go_iload_n (q := 3) (gDec iX11_movePoint_ok 2 rfl) rfl rfl rfl ?_
  refine go_iload_n (q := 4) (gDec iX11_movePoint_ok 3 rfl) rfl rfl rfl ?_
  refine go_iload_n (q := 5) (gDec iX11_movePoint_ok 4 rfl) rfl rfl rfl ?_
  refine go_callV (n2 := 0) (q := 8) kX11_107 (ctX11_isPoint (τ := τ) hW hM) (gDec iX11_movePoint_ok 5 rfl) rfl rfl (by decide) rfl rfl rfl (Nat.le_of_ble_eq_true rfl) rfl (gFit_rm (by decide) (by decide)) rfl ?_
  refine go_top (v' := 1) (if_pos h1) ?_
  refine go_if_eq (t := 15) (q := 11) (gDec iX11_movePoint_ok 6 rfl) (by decide) rfl (fun c8 => False.elim (absurd c8 (by decide))) (fun c8 => ?_)
  refine go_iconst (v := nI 0) (q := 12) (gDec iX11_movePoint_ok 7 rfl) (by decide) rfl ?_
  refine go_goto (t := 16) (gDec iX11_movePoint_ok 8 rfl) (by decide) ?_
  refine go_puti (q := 19) fX11_54 gft11 (gDec iX11_movePoint_ok 10 rfl) rfl (by decide) rfl rfl rfl rfl ?_
  refine go_aload_n (q := 20) (gDec iX11_movePoint_ok 11 rfl) rfl rfl rfl ?_
  refine go_geti (q := 23) fX11_54 (gDec iX11_movePoint_ok 12 rfl) rfl (by decide) rfl ?_
  refine go_top (v' := nI 0) rfl ?_
  refine go_if_le (t := 28) (q := 26) (gDec iX11_movePoint_ok 13 rfl) (by decide) rfl (fun c23 => ?_) (fun c23 => False.elim (c23 (by decide)))
  refine go_iload_n (q := 29) (gDec iX11_movePoint_ok 16 rfl) rfl rfl rfl ?_
  refine go_iload_n (q := 30) (gDec iX11_movePoint_ok 17 rfl) rfl rfl rfl ?_
  refine go_iload_n (q := 31) (gDec iX11_movePoint_ok 18 rfl) rfl rfl rfl ?_
  refine go_callS (n2 := 0) (q := 34) kX11_95 (ctX11_pointAt (g := i) (c := j) (p := q)) (gDec iX11_movePoint_ok 19 rfl) rfl rfl (Nat.le_of_ble_eq_true rfl) rfl (gFit_rm (by decide) (by decide)) rfl ?_
  refine go_istore (q := 36) (gDec iX11_movePoint_ok 20 rfl) (by decide) rfl ?_
  refine go_aload_n (q := 37) (gDec iX11_movePoint_ok 21 rfl) rfl rfl rfl ?_
  refine go_getr (r' := 377) (q := 40) fX11_9 (gDec iX11_movePoint_ok 22 rfl) rfl (by decide) rfl ?_
  refine go_iload (q := 42) (gDec iX11_movePoint_ok 23 rfl) rfl rfl ?_
  refine go_ialdN (q := 43) (gDec iX11_movePoint_ok 24 rfl) rfl (by decide) (by omega) (by decide) rfl ?_
  refine go_top (v' := τ.1 10 ((i * 3 + j) * 12 + q)) ((gMRt hM).px hi hj hq rfl) ?_
  refine go_i2l (q := 44) (gDec iX11_movePoint_ok 25 rfl) rfl ?_
  refine go_iload (q := 46) (gDec iX11_movePoint_ok 26 rfl) rfl rfl ?_
  refine go_i2l (q := 47) (gDec iX11_movePoint_ok 27 rfl) rfl ?_
  refine go_ladd (q := 48) (gDec iX11_movePoint_ok 28 rfl) rfl ?_
  refine go_lstore (q := 50) (gDec iX11_movePoint_ok 29 rfl) (by decide) rfl ?_
  refine go_aload_n (q := 51) (gDec iX11_movePoint_ok 30 rfl) rfl rfl rfl ?_
  refine go_getr (r' := 377) (q := 54) fX11_9 (gDec iX11_movePoint_ok 31 rfl) rfl (by decide) rfl ?_
  refine go_iload (q := 56) (gDec iX11_movePoint_ok 32 rfl) rfl rfl ?_
  refine go_iconst (v := nI 1) (q := 57) (gDec iX11_movePoint_ok 33 rfl) (by decide) rfl ?_
  refine go_iaddN (c := 196 + 96 * i + (5 + 2 * (12 * j + q)) + 1) (q := 58) (gDec iX11_movePoint_ok 34 rfl) rfl rfl ?_
  refine go_ialdN (q := 59) (gDec iX11_movePoint_ok 35 rfl) rfl (by decide) (by omega) (by decide) rfl ?_
  refine go_top (v' := τ.1 12 ((i * 3 + j) * 12 + q)) ((gMRt hM).py hi hj hq rfl) ?_
  refine go_i2l (q := 60) (gDec iX11_movePoint_ok 36 rfl) rfl ?_
  refine go_iload (q := 62) (gDec iX11_movePoint_ok 37 rfl) rfl rfl ?_
  refine go_i2l (q := 63) (gDec iX11_movePoint_ok 38 rfl) rfl ?_
  refine go_ladd (q := 64) (gDec iX11_movePoint_ok 39 rfl) rfl ?_
  refine go_lstore (q := 66) (gDec iX11_movePoint_ok 40 rfl) (by decide) rfl ?_
  refine go_aload_n (q := 67) (gDec iX11_movePoint_ok 41 rfl) rfl rfl rfl ?_
  refine go_lload (q := 69) (gDec iX11_movePoint_ok 42 rfl) rfl rfl ?_
  refine go_callS (n2 := 0) (q := 72) kX11_99 ctX11_isCoordinate (gDec iX11_movePoint_ok 43 rfl) rfl rfl (Nat.le_of_ble_eq_true rfl) rfl (gFit_rm (by decide) (by decide)) rfl ?_
  refine go_top (v' := 1) (gWi_t (by rw [l_add]; exact h2)) ?_
  refine go_if_eq (t := 87) (q := 75) (gDec iX11_movePoint_ok 44 rfl) (by decide) rfl (fun c72 => False.elim (absurd c72 (by decide))) (fun c72 => ?_)
  refine go_lload (q := 77) (gDec iX11_movePoint_ok 45 rfl) rfl rfl ?_
  refine go_callS (n2 := 0) (q := 80) kX11_99 ctX11_isCoordinate (gDec iX11_movePoint_ok 46 rfl) rfl rfl (Nat.le_of_ble_eq_true rfl) rfl (gFit_rm (by decide) (by decide)) rfl ?_
  refine go_top (v' := 1) (gWi_t (by rw [l_add]; exact h3)) ?_
  refine go_if_eq (t := 87) (q := 83) (gDec iX11_movePoint_ok 47 rfl) (by decide) rfl (fun c80 => False.elim (absurd c80 (by decide))) (fun c80 => ?_)
  refine go_iconst (v := nI 0) (q := 84) (gDec iX11_movePoint_ok 48 rfl) (by decide) rfl ?_
  refine go_goto (t := 88) (gDec iX11_movePoint_ok 49 rfl) (by decide) ?_
  refine go_puti (q := 91) fX11_54 gft11 (gDec iX11_movePoint_ok 51 rfl) rfl (by decide) rfl rfl rfl rfl ?_
  refine go_aload_n (q := 92) (gDec iX11_movePoint_ok 52 rfl) rfl rfl rfl ?_
  refine go_geti (q := 95) fX11_54 (gDec iX11_movePoint_ok 53 rfl) rfl (by decide) rfl ?_
  refine go_top (v' := nI 0) rfl ?_
  refine go_if_le (t := 100) (q := 98) (gDec iX11_movePoint_ok 54 rfl) (by decide) rfl (fun c95 => ?_) (fun c95 => False.elim (c95 (by decide)))
  refine go_aload_n (q := 101) (gDec iX11_movePoint_ok 57 rfl) rfl rfl rfl ?_
  refine go_callV (n2 := 0) (q := 104) kX11_89 (ctX11_change (n := (nA (τ.1 71 2))) h.hr.1 h.n8) (gDec iX11_movePoint_ok 58 rfl) rfl rfl (by decide) rfl rfl rfl (Nat.le_of_ble_eq_true rfl) rfl (gFit_rm (by decide) (by decide)) rfl ?_
  refine go_w (show _ = gChg (gPut σ 376 5 0) (nA (τ.1 71 2)) from congrArg (fun w => gChg w (nA (τ.1 71 2))) (gPut_tw σ 376 5 (nI 0) (nI 0))) ?_
  refine go_aload_n (q := 105) (gDec iX11_movePoint_ok 59 rfl) rfl rfl rfl ?_
  refine go_getr (r' := 377) (q := 108) fX11_9 (gDec iX11_movePoint_ok 60 rfl) rfl (by decide) rfl ?_
  refine go_iload (q := 110) (gDec iX11_movePoint_ok 61 rfl) rfl rfl ?_
  refine go_lload (q := 112) (gDec iX11_movePoint_ok 62 rfl) rfl rfl ?_
  refine go_l2i (q := 113) (gDec iX11_movePoint_ok 63 rfl) rfl ?_
  refine go_top (v' := τ.1 10 ((i * 3 + j) * 12 + q) + dx) (l2i_add _ _) ?_
  refine go_iastN (q := 114) (gDec iX11_movePoint_ok 64 rfl) rfl (by decide) (by omega) (by decide) rfl ?_
  refine go_aload_n (q := 115) (gDec iX11_movePoint_ok 65 rfl) rfl rfl rfl ?_
  refine go_getr (r' := 377) (q := 118) fX11_9 (gDec iX11_movePoint_ok 66 rfl) rfl (by decide) rfl ?_
  refine go_iload (q := 120) (gDec iX11_movePoint_ok 67 rfl) rfl rfl ?_
  refine go_iconst (v := nI 1) (q := 121) (gDec iX11_movePoint_ok 68 rfl) (by decide) rfl ?_
  refine go_iaddN (c := 196 + 96 * i + (5 + 2 * (12 * j + q)) + 1) (q := 122) (gDec iX11_movePoint_ok 69 rfl) rfl rfl ?_
  refine go_lload (q := 124) (gDec iX11_movePoint_ok 70 rfl) rfl rfl ?_
  refine go_l2i (q := 125) (gDec iX11_movePoint_ok 71 rfl) rfl ?_
  refine go_top (v' := τ.1 12 ((i * 3 + j) * 12 + q) + dy) (l2i_add _ _) ?_
  refine go_iastN (q := 126) (gDec iX11_movePoint_ok 72 rfl) rfl (by decide) (by omega) (by decide) rfl ?_
  refine go_lload (q := 128) (gDec iX11_movePoint_ok 73 rfl) rfl rfl ?_
  refine go_l2i (q := 129) (gDec iX11_movePoint_ok 74 rfl) rfl ?_
  refine go_top (v' := τ.1 10 ((i * 3 + j) * 12 + q) + dx) (l2i_add _ _) ?_
  exact go_ireturn (gDec iX11_movePoint_ok 75 rfl) rfl rfl rfl rfl (by decide)

set_option maxHeartbeats 4000000 in
set_option maxRecDepth 100000 in
theorem ok_movePoint {κ : gK} {σ τ : gST} {g c p dx dy : Int32} (h : gAll τ σ) : gOK κ mX11_movePoint [.ref (κ.2.1 + 376), .int g, .int c, .int p, .int dx, .int dy] σ (rI (aI (fMovePoint τ g c p dx dy).1)) kOA (fMovePoint τ g c p dx dy) := by
  have hC := h.ci
  have hM := h.mr
  have hW := hC.dw
  have h24 := hW.ng24
  by_cases h1 : gInP τ g c p
  · obtain ⟨i, j, q, hi, hj, hq, rfl, rfl, rfl⟩ := gInP.ex hW h1
    have hc3 := hW.nc3 (g := i) (by omega)
    have h12 := hW.np12 (g := i) (c := j) (by omega) (by omega)
    by_cases h2 : -200 ≤ (τ.1 10 ((i * 3 + j) * 12 + q)).toInt + dx.toInt ∧ (τ.1 10 ((i * 3 + j) * 12 + q)).toInt + dx.toInt ≤ 1200
    · by_cases h3 : -200 ≤ (τ.1 12 ((i * 3 + j) * 12 + q)).toInt + dy.toInt ∧ (τ.1 12 ((i * 3 + j) * 12 + q)).toInt + dy.toInt ≤ 1200
      · rw [show fMovePoint τ (nI i) (nI j) (nI q) dx dy = (rI (τ.1 10 ((i * 3 + j) * 12 + q) + dx), (gPut (gPut (gRem τ) 10 ((i * 3 + j) * 12 + q) (τ.1 10 ((i * 3 + j) * 12 + q) + dx)) 12 ((i * 3 + j) * 12 + q) (τ.1 12 ((i * 3 + j) * 12 + q) + dy))) from (if_pos h1).trans ((if_pos (by rw [nA_nI (n := i) (by omega), nA_nI (n := j) (by omega), nA_nI (n := q) (by omega)]; exact ⟨h2, h3⟩)).trans (by rw [nA_nI (n := i) (by omega), nA_nI (n := j) (by omega), nA_nI (n := q) (by omega)]))]
        refine gOK.ch h (okw_movePoint h h1 hi hj hq h2 h3) (mt_move (gRem_ci hC) (gRem_mr hC hM) (by rw [gRem_ng]; exact hi) (by rw [(gRem_1 τ).nc (by omega)]; exact hj) (by rw [(gRem_1 τ).np (by omega) (by omega)]; exact hq) (by rw [gCo_i h2]; exact h2) (by rw [gCo_i h3]; exact h3)) (fun k hk => by rw [gPut_ne _ _ _ (by omega), gPut_ne _ _ _ (by omega)]) (by rw [show gNg (gPut (gPut (gRem τ) 10 ((i * 3 + j) * 12 + q) (τ.1 10 ((i * 3 + j) * 12 + q) + dx)) 12 ((i * 3 + j) * 12 + q) (τ.1 12 ((i * 3 + j) * 12 + q) + dy)) = gNg (gRem τ) from rfl, gRem_ng]; exact Nat.le_refl _) (fun k hk => by rw [gPut_ne _ _ _ hk, gPut_ne _ _ _ hk]) rfl
      · rw [show fMovePoint τ (nI i) (nI j) (nI q) dx dy = (xIAE, τ) from (if_pos h1).trans (if_neg (by rw [nA_nI (n := i) (by omega), nA_nI (n := j) (by omega), nA_nI (n := q) (by omega)]; exact fun h9 => h3 h9.2))]
        refine gOK.rd h rfl ?_
        refine ct_of (by decide +kernel) rfl (Nat.le_of_ble_eq_true rfl) rfl ?_
        refine go_aload_n (q := 1) (gDec iX11_movePoint_ok 0 rfl) rfl rfl rfl ?_
        refine go_aload_n (q := 2) (gDec iX11_movePoint_ok 1 rfl) rfl rfl rfl ?_
        refine go_iload_n (q := 3) (gDec iX11_movePoint_ok 2 rfl) rfl rfl rfl ?_
        refine go_iload_n (q := 4) (gDec iX11_movePoint_ok 3 rfl) rfl rfl rfl ?_
        refine go_iload_n (q := 5) (gDec iX11_movePoint_ok 4 rfl) rfl rfl rfl ?_
        refine go_callV (n2 := 0) (q := 8) kX11_107 (ctX11_isPoint (τ := τ) hW hM) (gDec iX11_movePoint_ok 5 rfl) rfl rfl (by decide) rfl rfl rfl (Nat.le_of_ble_eq_true rfl) rfl (gFit_rm (by decide) (by decide)) rfl ?_
        refine go_top (v' := 1) (if_pos h1) ?_
        refine go_if_eq (t := 15) (q := 11) (gDec iX11_movePoint_ok 6 rfl) (by decide) rfl (fun c8 => False.elim (absurd c8 (by decide))) (fun c8 => ?_)
        refine go_iconst (v := nI 0) (q := 12) (gDec iX11_movePoint_ok 7 rfl) (by decide) rfl ?_
        refine go_goto (t := 16) (gDec iX11_movePoint_ok 8 rfl) (by decide) ?_
        refine go_puti (q := 19) fX11_54 gft11 (gDec iX11_movePoint_ok 10 rfl) rfl (by decide) rfl rfl rfl rfl ?_
        refine go_aload_n (q := 20) (gDec iX11_movePoint_ok 11 rfl) rfl rfl rfl ?_
        refine go_geti (q := 23) fX11_54 (gDec iX11_movePoint_ok 12 rfl) rfl (by decide) rfl ?_
        refine go_top (v' := nI 0) rfl ?_
        refine go_if_le (t := 28) (q := 26) (gDec iX11_movePoint_ok 13 rfl) (by decide) rfl (fun c23 => ?_) (fun c23 => False.elim (c23 (by decide)))
        refine go_iload_n (q := 29) (gDec iX11_movePoint_ok 16 rfl) rfl rfl rfl ?_
        refine go_iload_n (q := 30) (gDec iX11_movePoint_ok 17 rfl) rfl rfl rfl ?_
        refine go_iload_n (q := 31) (gDec iX11_movePoint_ok 18 rfl) rfl rfl rfl ?_
        refine go_callS (n2 := 0) (q := 34) kX11_95 (ctX11_pointAt (g := i) (c := j) (p := q)) (gDec iX11_movePoint_ok 19 rfl) rfl rfl (Nat.le_of_ble_eq_true rfl) rfl (gFit_rm (by decide) (by decide)) rfl ?_
        refine go_istore (q := 36) (gDec iX11_movePoint_ok 20 rfl) (by decide) rfl ?_
        refine go_aload_n (q := 37) (gDec iX11_movePoint_ok 21 rfl) rfl rfl rfl ?_
        refine go_getr (r' := 377) (q := 40) fX11_9 (gDec iX11_movePoint_ok 22 rfl) rfl (by decide) rfl ?_
        refine go_iload (q := 42) (gDec iX11_movePoint_ok 23 rfl) rfl rfl ?_
        refine go_ialdN (q := 43) (gDec iX11_movePoint_ok 24 rfl) rfl (by decide) (by omega) (by decide) rfl ?_
        refine go_top (v' := τ.1 10 ((i * 3 + j) * 12 + q)) ((gMRt hM).px hi hj hq rfl) ?_
        refine go_i2l (q := 44) (gDec iX11_movePoint_ok 25 rfl) rfl ?_
        refine go_iload (q := 46) (gDec iX11_movePoint_ok 26 rfl) rfl rfl ?_
        refine go_i2l (q := 47) (gDec iX11_movePoint_ok 27 rfl) rfl ?_
        refine go_ladd (q := 48) (gDec iX11_movePoint_ok 28 rfl) rfl ?_
        refine go_lstore (q := 50) (gDec iX11_movePoint_ok 29 rfl) (by decide) rfl ?_
        refine go_aload_n (q := 51) (gDec iX11_movePoint_ok 30 rfl) rfl rfl rfl ?_
        refine go_getr (r' := 377) (q := 54) fX11_9 (gDec iX11_movePoint_ok 31 rfl) rfl (by decide) rfl ?_
        refine go_iload (q := 56) (gDec iX11_movePoint_ok 32 rfl) rfl rfl ?_
        refine go_iconst (v := nI 1) (q := 57) (gDec iX11_movePoint_ok 33 rfl) (by decide) rfl ?_
        refine go_iaddN (c := 196 + 96 * i + (5 + 2 * (12 * j + q)) + 1) (q := 58) (gDec iX11_movePoint_ok 34 rfl) rfl rfl ?_
        refine go_ialdN (q := 59) (gDec iX11_movePoint_ok 35 rfl) rfl (by decide) (by omega) (by decide) rfl ?_
        refine go_top (v' := τ.1 12 ((i * 3 + j) * 12 + q)) ((gMRt hM).py hi hj hq rfl) ?_
        refine go_i2l (q := 60) (gDec iX11_movePoint_ok 36 rfl) rfl ?_
        refine go_iload (q := 62) (gDec iX11_movePoint_ok 37 rfl) rfl rfl ?_
        refine go_i2l (q := 63) (gDec iX11_movePoint_ok 38 rfl) rfl ?_
        refine go_ladd (q := 64) (gDec iX11_movePoint_ok 39 rfl) rfl ?_
        refine go_lstore (q := 66) (gDec iX11_movePoint_ok 40 rfl) (by decide) rfl ?_
        refine go_aload_n (q := 67) (gDec iX11_movePoint_ok 41 rfl) rfl rfl rfl ?_
        refine go_lload (q := 69) (gDec iX11_movePoint_ok 42 rfl) rfl rfl ?_
        refine go_callS (n2 := 0) (q := 72) kX11_99 ctX11_isCoordinate (gDec iX11_movePoint_ok 43 rfl) rfl rfl (Nat.le_of_ble_eq_true rfl) rfl (gFit_rm (by decide) (by decide)) rfl ?_
        refine go_top (v' := 1) (gWi_t (by rw [l_add]; exact h2)) ?_
        refine go_if_eq (t := 87) (q := 75) (gDec iX11_movePoint_ok 44 rfl) (by decide) rfl (fun c72 => False.elim (absurd c72 (by decide))) (fun c72 => ?_)
        refine go_lload (q := 77) (gDec iX11_movePoint_ok 45 rfl) rfl rfl ?_
        refine go_callS (n2 := 0) (q := 80) kX11_99 ctX11_isCoordinate (gDec iX11_movePoint_ok 46 rfl) rfl rfl (Nat.le_of_ble_eq_true rfl) rfl (gFit_rm (by decide) (by decide)) rfl ?_
        refine go_top (v' := 0) (gWi_f (by rw [l_add]; exact h3)) ?_
        refine go_if_eq (t := 87) (q := 83) (gDec iX11_movePoint_ok 47 rfl) (by decide) rfl (fun c80 => ?_) (fun c80 => False.elim (c80 rfl))
        refine go_iconst (v := nI 2) (q := 88) (gDec iX11_movePoint_ok 50 rfl) (by decide) rfl ?_
        refine go_puti (q := 91) fX11_54 gft11 (gDec iX11_movePoint_ok 51 rfl) rfl (by decide) rfl rfl rfl rfl ?_
        refine go_aload_n (q := 92) (gDec iX11_movePoint_ok 52 rfl) rfl rfl rfl ?_
        refine go_geti (q := 95) fX11_54 (gDec iX11_movePoint_ok 53 rfl) rfl (by decide) rfl ?_
        refine go_top (v' := nI 2) rfl ?_
        refine go_if_le (t := 100) (q := 98) (gDec iX11_movePoint_ok 54 rfl) (by decide) rfl (fun c95 => False.elim (absurd c95 (by decide))) (fun c95 => ?_)
        refine go_iconst (v := nI 0) (q := 99) (gDec iX11_movePoint_ok 55 rfl) (by decide) rfl ?_
        exact go_ireturn (gDec iX11_movePoint_ok 56 rfl) rfl rfl rfl (gPut_2x (congrArg (gPut σ 376 5) xc_OA_A)) (by decide)
    · rw [show fMovePoint τ (nI i) (nI j) (nI q) dx dy = (xIAE, τ) from (if_pos h1).trans (if_neg (by rw [nA_nI (n := i) (by omega), nA_nI (n := j) (by omega), nA_nI (n := q) (by omega)]; exact fun h9 => h2 h9.1))]
      refine gOK.rd h rfl ?_
      refine ct_of (by decide +kernel) rfl (Nat.le_of_ble_eq_true rfl) rfl ?_
      refine go_aload_n (q := 1) (gDec iX11_movePoint_ok 0 rfl) rfl rfl rfl ?_
      refine go_aload_n (q := 2) (gDec iX11_movePoint_ok 1 rfl) rfl rfl rfl ?_
      refine go_iload_n (q := 3) (gDec iX11_movePoint_ok 2 rfl) rfl rfl rfl ?_
      refine go_iload_n (q := 4) (gDec iX11_movePoint_ok 3 rfl) rfl rfl rfl ?_
      refine go_iload_n (q := 5) (gDec iX11_movePoint_ok 4 rfl) rfl rfl rfl ?_
      refine go_callV (n2 := 0) (q := 8) kX11_107 (ctX11_isPoint (τ := τ) hW hM) (gDec iX11_movePoint_ok 5 rfl) rfl rfl (by decide) rfl rfl rfl (Nat.le_of_ble_eq_true rfl) rfl (gFit_rm (by decide) (by decide)) rfl ?_
      refine go_top (v' := 1) (if_pos h1) ?_
      refine go_if_eq (t := 15) (q := 11) (gDec iX11_movePoint_ok 6 rfl) (by decide) rfl (fun c8 => False.elim (absurd c8 (by decide))) (fun c8 => ?_)
      refine go_iconst (v := nI 0) (q := 12) (gDec iX11_movePoint_ok 7 rfl) (by decide) rfl ?_
      refine go_goto (t := 16) (gDec iX11_movePoint_ok 8 rfl) (by decide) ?_
      refine go_puti (q := 19) fX11_54 gft11 (gDec iX11_movePoint_ok 10 rfl) rfl (by decide) rfl rfl rfl rfl ?_
      refine go_aload_n (q := 20) (gDec iX11_movePoint_ok 11 rfl) rfl rfl rfl ?_
      refine go_geti (q := 23) fX11_54 (gDec iX11_movePoint_ok 12 rfl) rfl (by decide) rfl ?_
      refine go_top (v' := nI 0) rfl ?_
      refine go_if_le (t := 28) (q := 26) (gDec iX11_movePoint_ok 13 rfl) (by decide) rfl (fun c23 => ?_) (fun c23 => False.elim (c23 (by decide)))
      refine go_iload_n (q := 29) (gDec iX11_movePoint_ok 16 rfl) rfl rfl rfl ?_
      refine go_iload_n (q := 30) (gDec iX11_movePoint_ok 17 rfl) rfl rfl rfl ?_
      refine go_iload_n (q := 31) (gDec iX11_movePoint_ok 18 rfl) rfl rfl rfl ?_
      refine go_callS (n2 := 0) (q := 34) kX11_95 (ctX11_pointAt (g := i) (c := j) (p := q)) (gDec iX11_movePoint_ok 19 rfl) rfl rfl (Nat.le_of_ble_eq_true rfl) rfl (gFit_rm (by decide) (by decide)) rfl ?_
      refine go_istore (q := 36) (gDec iX11_movePoint_ok 20 rfl) (by decide) rfl ?_
      refine go_aload_n (q := 37) (gDec iX11_movePoint_ok 21 rfl) rfl rfl rfl ?_
      refine go_getr (r' := 377) (q := 40) fX11_9 (gDec iX11_movePoint_ok 22 rfl) rfl (by decide) rfl ?_
      refine go_iload (q := 42) (gDec iX11_movePoint_ok 23 rfl) rfl rfl ?_
      refine go_ialdN (q := 43) (gDec iX11_movePoint_ok 24 rfl) rfl (by decide) (by omega) (by decide) rfl ?_
      refine go_top (v' := τ.1 10 ((i * 3 + j) * 12 + q)) ((gMRt hM).px hi hj hq rfl) ?_
      refine go_i2l (q := 44) (gDec iX11_movePoint_ok 25 rfl) rfl ?_
      refine go_iload (q := 46) (gDec iX11_movePoint_ok 26 rfl) rfl rfl ?_
      refine go_i2l (q := 47) (gDec iX11_movePoint_ok 27 rfl) rfl ?_
      refine go_ladd (q := 48) (gDec iX11_movePoint_ok 28 rfl) rfl ?_
      refine go_lstore (q := 50) (gDec iX11_movePoint_ok 29 rfl) (by decide) rfl ?_
      refine go_aload_n (q := 51) (gDec iX11_movePoint_ok 30 rfl) rfl rfl rfl ?_
      refine go_getr (r' := 377) (q := 54) fX11_9 (gDec iX11_movePoint_ok 31 rfl) rfl (by decide) rfl ?_
      refine go_iload (q := 56) (gDec iX11_movePoint_ok 32 rfl) rfl rfl ?_
      refine go_iconst (v := nI 1) (q := 57) (gDec iX11_movePoint_ok 33 rfl) (by decide) rfl ?_
      refine go_iaddN (c := 196 + 96 * i + (5 + 2 * (12 * j + q)) + 1) (q := 58) (gDec iX11_movePoint_ok 34 rfl) rfl rfl ?_
      refine go_ialdN (q := 59) (gDec iX11_movePoint_ok 35 rfl) rfl (by decide) (by omega) (by decide) rfl ?_
      refine go_top (v' := τ.1 12 ((i * 3 + j) * 12 + q)) ((gMRt hM).py hi hj hq rfl) ?_
      refine go_i2l (q := 60) (gDec iX11_movePoint_ok 36 rfl) rfl ?_
      refine go_iload (q := 62) (gDec iX11_movePoint_ok 37 rfl) rfl rfl ?_
      refine go_i2l (q := 63) (gDec iX11_movePoint_ok 38 rfl) rfl ?_
      refine go_ladd (q := 64) (gDec iX11_movePoint_ok 39 rfl) rfl ?_
      refine go_lstore (q := 66) (gDec iX11_movePoint_ok 40 rfl) (by decide) rfl ?_
      refine go_aload_n (q := 67) (gDec iX11_movePoint_ok 41 rfl) rfl rfl rfl ?_
      refine go_lload (q := 69) (gDec iX11_movePoint_ok 42 rfl) rfl rfl ?_
      refine go_callS (n2 := 0) (q := 72) kX11_99 ctX11_isCoordinate (gDec iX11_movePoint_ok 43 rfl) rfl rfl (Nat.le_of_ble_eq_true rfl) rfl (gFit_rm (by decide) (by decide)) rfl ?_
      refine go_top (v' := 0) (gWi_f (by rw [l_add]; exact h2)) ?_
      refine go_if_eq (t := 87) (q := 75) (gDec iX11_movePoint_ok 44 rfl) (by decide) rfl (fun c72 => ?_) (fun c72 => False.elim (c72 rfl))
      refine go_iconst (v := nI 2) (q := 88) (gDec iX11_movePoint_ok 50 rfl) (by decide) rfl ?_
      refine go_puti (q := 91) fX11_54 gft11 (gDec iX11_movePoint_ok 51 rfl) rfl (by decide) rfl rfl rfl rfl ?_
      refine go_aload_n (q := 92) (gDec iX11_movePoint_ok 52 rfl) rfl rfl rfl ?_
      refine go_geti (q := 95) fX11_54 (gDec iX11_movePoint_ok 53 rfl) rfl (by decide) rfl ?_
      refine go_top (v' := nI 2) rfl ?_
      refine go_if_le (t := 100) (q := 98) (gDec iX11_movePoint_ok 54 rfl) (by decide) rfl (fun c95 => False.elim (absurd c95 (by decide))) (fun c95 => ?_)
      refine go_iconst (v := nI 0) (q := 99) (gDec iX11_movePoint_ok 55 rfl) (by decide) rfl ?_
      exact go_ireturn (gDec iX11_movePoint_ok 56 rfl) rfl rfl rfl (gPut_2x (congrArg (gPut σ 376 5) xc_OA_A)) (by decide)
  · rw [show fMovePoint τ g c p dx dy = (xIOB, τ) from if_neg h1]
    refine gOK.rd h rfl ?_
    refine ct_of (by decide +kernel) rfl (Nat.le_of_ble_eq_true rfl) rfl ?_
    refine go_aload_n (q := 1) (gDec iX11_movePoint_ok 0 rfl) rfl rfl rfl ?_
    refine go_aload_n (q := 2) (gDec iX11_movePoint_ok 1 rfl) rfl rfl rfl ?_
    refine go_iload_n (q := 3) (gDec iX11_movePoint_ok 2 rfl) rfl rfl rfl ?_
    refine go_iload_n (q := 4) (gDec iX11_movePoint_ok 3 rfl) rfl rfl rfl ?_
    refine go_iload_n (q := 5) (gDec iX11_movePoint_ok 4 rfl) rfl rfl rfl ?_
    refine go_callV (n2 := 0) (q := 8) kX11_107 (ctX11_isPoint (τ := τ) hW hM) (gDec iX11_movePoint_ok 5 rfl) rfl rfl (by decide) rfl rfl rfl (Nat.le_of_ble_eq_true rfl) rfl (gFit_rm (by decide) (by decide)) rfl ?_
    refine go_top (v' := 0) (if_neg h1) ?_
    refine go_if_eq (t := 15) (q := 11) (gDec iX11_movePoint_ok 6 rfl) (by decide) rfl (fun c8 => ?_) (fun c8 => False.elim (c8 rfl))
    refine go_iconst (v := nI 1) (q := 16) (gDec iX11_movePoint_ok 9 rfl) (by decide) rfl ?_
    refine go_puti (q := 19) fX11_54 gft11 (gDec iX11_movePoint_ok 10 rfl) rfl (by decide) rfl rfl rfl rfl ?_
    refine go_aload_n (q := 20) (gDec iX11_movePoint_ok 11 rfl) rfl rfl rfl ?_
    refine go_geti (q := 23) fX11_54 (gDec iX11_movePoint_ok 12 rfl) rfl (by decide) rfl ?_
    refine go_top (v' := nI 1) rfl ?_
    refine go_if_le (t := 28) (q := 26) (gDec iX11_movePoint_ok 13 rfl) (by decide) rfl (fun c23 => False.elim (absurd c23 (by decide))) (fun c23 => ?_)
    refine go_iconst (v := nI 0) (q := 27) (gDec iX11_movePoint_ok 14 rfl) (by decide) rfl ?_
    exact go_ireturn (gDec iX11_movePoint_ok 15 rfl) rfl rfl rfl (congrArg (gPut σ 376 5) xc_OA_O) (by decide)
