/-- thrown so far: 2 if a point could not be moved -/
def oT (b : Bool) : Int32 := if b = true then 2 else 0
def gBad (τ : gST) (i : Nat) (dx dy : Int32) (c p : Nat) (b : Bool) : Bool := if gCo ((τ.1 10 ((i * 3 + c) * 12 + p)).toInt + dx.toInt) ((τ.1 12 ((i * 3 + c) * 12 + p)).toInt + dy.toInt) then b else true
theorem gBad_t {τ : gST} {i c p : Nat} {dx dy : Int32} {b : Bool} (h : gMvG τ i dx dy c p) : gBad τ i dx dy c p b = b := if_pos h
theorem gBad_f {τ : gST} {i c p : Nat} {dx dy : Int32} {b : Bool} (h : ¬ gMvG τ i dx dy c p) : gBad τ i dx dy c p b = true := if_neg h
theorem gBad_L {τ : gST} {i c : Nat} {dx dy : Int32} : ∀ (m j : Nat) (b : Bool), gLoop (gBad τ i dx dy c) j m b = false → b = false ∧ ∀ p, j ≤ p → p < j + m → gMvG τ i dx dy c p
  | 0, j, b, h => ⟨h, fun p h1 h2 => by omega⟩
  | m + 1, j, b, h => by
    obtain ⟨h1, h2⟩ := gBad_L m (j + 1) (gBad τ i dx dy c j b) h
    by_cases hg : gMvG τ i dx dy c j
    · rw [gBad_t hg] at h1
      refine ⟨h1, fun p q1 q2 => ?_⟩
      rcases Nat.eq_or_lt_of_le q1 with e | e
      · subst e; exact hg
      · exact h2 p e (by omega)
    · rw [gBad_f hg] at h1; cases h1
theorem gBad_T {τ : gST} {i c : Nat} {dx dy : Int32} : ∀ (m j : Nat) (b : Bool), b = false → (∀ p, j ≤ p → p < j + m → gMvG τ i dx dy c p) → gLoop (gBad τ i dx dy c) j m b = false
  | 0, j, b, h, _ => h
  | m + 1, j, b, h, hg => by
    refine gBad_T m (j + 1) _ ?_ (fun p q1 q2 => hg p (by omega) (by omega))
    rw [gBad_t (hg j (Nat.le_refl _) (by omega))]
    exact h

set_option maxHeartbeats 4000000 in
set_option maxRecDepth 100000 in
theorem lpX11_sh2 {κ : gK} {Z : gZ} {σ τ : gST} {i : Nat} {dx dy : Int32} (hW : gDW τ) (hM : gMR τ (σ.1 377)) (hi : i < gNg τ) {c : Nat} (hc : c < gNc τ i) : ∀ (m p : Nat) (b : Bool), p + m = gNp τ i c → Go κ mX11_shift (gRm 9 0) Z 119 [(0, .ref (κ.2.1 + 376)), (1, .int (nI i)), (2, .int dx), (3, .int dy), (4, .int (nI c)), (5, .int (nI (gNp τ i c)))] [] (gPut σ 376 5 (oT (gLoop (gBad τ i dx dy c) p m b))) 0 → Go κ mX11_shift (gRm 9 0) Z 41 [(0, .ref (κ.2.1 + 376)), (1, .int (nI i)), (2, .int dx), (3, .int dy), (4, .int (nI c)), (5, .int (nI p))] [] (gPut σ 376 5 (oT b)) 0 := by
  have h24 := hW.ng24
  have hc3 := hW.nc3 (g := i) (by omega)
  have h12 := hW.np12 (g := i) (c := c) (by omega) (by omega)
  intro m
  induction m with
  | zero =>
    intro p b hp h
    have hiN : gNp τ i c = p := by omega
    subst hiN
    refine go_iload (q := 43) (gDec iX11_shift_ok 22 rfl) rfl rfl ?_
    refine go_aload_n (q := 44) (gDec iX11_shift_ok 23 rfl) rfl rfl rfl ?_
    refine go_iload_n (q := 45) (gDec iX11_shift_ok 24 rfl) rfl rfl rfl ?_
    refine go_iconst (v := nI 2) (q := 46) (gDec iX11_shift_ok 25 rfl) (by decide) rfl ?_
    refine go_iload (q := 48) (gDec iX11_shift_ok 26 rfl) rfl rfl ?_
    refine go_iaddN (c := 2 + c) (q := 49) (gDec iX11_shift_ok 27 rfl) rfl rfl ?_
    refine go_callV (n2 := 0) (q := 52) kX11_69 (ctX11_of (g := i) (w := 2 + c) (by omega)) (gDec iX11_shift_ok 28 rfl) rfl rfl (by decide) rfl rfl rfl (Nat.le_of_ble_eq_true rfl) rfl (gFit_rm (by decide) (by decide)) rfl ?_
    refine go_top (v' := nI (gNp τ i c)) ((gMRt hM).np hW hi hc rfl) ?_
    refine go_icmp_ge (t := 119) (q := 55) (gDec iX11_shift_ok 29 rfl) (by decide) rfl (fun c52 => ?_) (fun c52 => False.elim (c52 (Int32.le_refl _)))
    exact h
  | succ m ih =>
    intro p b hp h
    have ih2 := ih (p + 1) (gBad τ i dx dy c p b) (by omega) h
    by_cases g1 : -200 ≤ (τ.1 10 ((i * 3 + c) * 12 + p)).toInt + dx.toInt ∧ (τ.1 10 ((i * 3 + c) * 12 + p)).toInt + dx.toInt ≤ 1200
    · by_cases g2 : -200 ≤ (τ.1 12 ((i * 3 + c) * 12 + p)).toInt + dy.toInt ∧ (τ.1 12 ((i * 3 + c) * 12 + p)).toInt + dy.toInt ≤ 1200
      · skip
        refine go_iload (q := 43) (gDec iX11_shift_ok 22 rfl) rfl rfl ?_
        refine go_aload_n (q := 44) (gDec iX11_shift_ok 23 rfl) rfl rfl rfl ?_
        refine go_iload_n (q := 45) (gDec iX11_shift_ok 24 rfl) rfl rfl rfl ?_
        refine go_iconst (v := nI 2) (q := 46) (gDec iX11_shift_ok 25 rfl) (by decide) rfl ?_
        refine go_iload (q := 48) (gDec iX11_shift_ok 26 rfl) rfl rfl ?_
        refine go_iaddN (c := 2 + c) (q := 49) (gDec iX11_shift_ok 27 rfl) rfl rfl ?_
        refine go_callV (n2 := 0) (q := 52) kX11_69 (ctX11_of (g := i) (w := 2 + c) (by omega)) (gDec iX11_shift_ok 28 rfl) rfl rfl (by decide) rfl rfl rfl (Nat.le_of_ble_eq_true rfl) rfl (gFit_rm (by decide) (by decide)) rfl ?_
        refine go_top (v' := nI (gNp τ i c)) ((gMRt hM).np hW hi hc rfl) ?_
        refine go_icmp_ge (t := 119) (q := 55) (gDec iX11_shift_ok 29 rfl) (by decide) rfl (fun c52 => False.elim (nI_ge (a := p) (b := gNp τ i c) (by omega) (by omega) c52)) (fun c52 => ?_)
        refine go_iload_n (q := 56) (gDec iX11_shift_ok 30 rfl) rfl rfl rfl ?_
        refine go_iload (q := 58) (gDec iX11_shift_ok 31 rfl) rfl rfl ?_
        refine go_iload (q := 60) (gDec iX11_shift_ok 32 rfl) rfl rfl ?_
        refine go_callS (n2 := 0) (q := 63) kX11_95 (ctX11_pointAt (g := i) (c := c) (p := p)) (gDec iX11_shift_ok 33 rfl) rfl rfl (Nat.le_of_ble_eq_true rfl) rfl (gFit_rm (by decide) (by decide)) rfl ?_
        refine go_istore (q := 65) (gDec iX11_shift_ok 34 rfl) (by decide) rfl ?_
        refine go_aload_n (q := 66) (gDec iX11_shift_ok 35 rfl) rfl rfl rfl ?_
        refine go_aload_n (q := 67) (gDec iX11_shift_ok 36 rfl) rfl rfl rfl ?_
        refine go_getr (r' := 377) (q := 70) fX11_9 (gDec iX11_shift_ok 37 rfl) rfl (by decide) rfl ?_
        refine go_iload (q := 72) (gDec iX11_shift_ok 38 rfl) rfl rfl ?_
        refine go_ialdN (q := 73) (gDec iX11_shift_ok 39 rfl) rfl (by decide) (by omega) (by decide) rfl ?_
        refine go_top (v' := τ.1 10 ((i * 3 + c) * 12 + p)) ((gMRt hM).px hi hc (by omega) rfl) ?_
        refine go_i2l (q := 74) (gDec iX11_shift_ok 40 rfl) rfl ?_
        refine go_iload_n (q := 75) (gDec iX11_shift_ok 41 rfl) rfl rfl rfl ?_
        refine go_i2l (q := 76) (gDec iX11_shift_ok 42 rfl) rfl ?_
        refine go_ladd (q := 77) (gDec iX11_shift_ok 43 rfl) rfl ?_
        refine go_callS (n2 := 0) (q := 80) kX11_99 ctX11_isCoordinate (gDec iX11_shift_ok 44 rfl) rfl rfl (Nat.le_of_ble_eq_true rfl) rfl (gFit_rm (by decide) (by decide)) rfl ?_
        refine go_top (v' := 1) (gWi_t (by rw [l_add]; exact g1)) ?_
        refine go_if_eq (t := 109) (q := 83) (gDec iX11_shift_ok 45 rfl) (by decide) rfl (fun c80 => False.elim (absurd c80 (by decide))) (fun c80 => ?_)
        refine go_aload_n (q := 84) (gDec iX11_shift_ok 46 rfl) rfl rfl rfl ?_
        refine go_getr (r' := 377) (q := 87) fX11_9 (gDec iX11_shift_ok 47 rfl) rfl (by decide) rfl ?_
        refine go_iload (q := 89) (gDec iX11_shift_ok 48 rfl) rfl rfl ?_
        refine go_iconst (v := nI 1) (q := 90) (gDec iX11_shift_ok 49 rfl) (by decide) rfl ?_
        refine go_iaddN (c := 196 + 96 * i + (5 + 2 * (12 * c + p)) + 1) (q := 91) (gDec iX11_shift_ok 50 rfl) rfl rfl ?_
        refine go_ialdN (q := 92) (gDec iX11_shift_ok 51 rfl) rfl (by decide) (by omega) (by decide) rfl ?_
        refine go_top (v' := τ.1 12 ((i * 3 + c) * 12 + p)) ((gMRt hM).py hi hc (by omega) rfl) ?_
        refine go_i2l (q := 93) (gDec iX11_shift_ok 52 rfl) rfl ?_
        refine go_iload_n (q := 94) (gDec iX11_shift_ok 53 rfl) rfl rfl rfl ?_
        refine go_i2l (q := 95) (gDec iX11_shift_ok 54 rfl) rfl ?_
        refine go_ladd (q := 96) (gDec iX11_shift_ok 55 rfl) rfl ?_
        refine go_callS (n2 := 0) (q := 99) kX11_99 ctX11_isCoordinate (gDec iX11_shift_ok 56 rfl) rfl rfl (Nat.le_of_ble_eq_true rfl) rfl (gFit_rm (by decide) (by decide)) rfl ?_
        refine go_top (v' := 1) (gWi_t (by rw [l_add]; exact g2)) ?_
        refine go_if_eq (t := 109) (q := 102) (gDec iX11_shift_ok 57 rfl) (by decide) rfl (fun c99 => False.elim (absurd c99 (by decide))) (fun c99 => ?_)
        refine go_aload_n (q := 103) (gDec iX11_shift_ok 58 rfl) rfl rfl rfl ?_
        refine go_geti (q := 106) fX11_54 (gDec iX11_shift_ok 59 rfl) rfl (by decide) rfl ?_
        refine go_top (v' := oT b) (rfl) ?_
        refine go_goto (t := 110) (gDec iX11_shift_ok 60 rfl) (by decide) ?_
        refine go_puti (q := 113) fX11_54 gft11 (gDec iX11_shift_ok 62 rfl) rfl (by decide) rfl rfl rfl rfl ?_
        rw [gBad_t ⟨g1, g2⟩] at ih2
        refine go_w (show _ = gPut σ 376 5 (oT b) from (gPut_tw _ _ _ _ _)) ?_
        refine go_iinc (v := nI (p + 1)) (q := 116) (gDec iX11_shift_ok 63 rfl) rfl (nI_1 _) (by decide) rfl ?_
        refine go_goto (t := 41) (gDec iX11_shift_ok 64 rfl) (by decide) ?_
        refine go_sub (L' := [(0, .ref (κ.2.1 + 376)), (1, .int (nI i)), (2, .int dx), (3, .int dy), (4, .int (nI c)), (5, .int (nI (p + 1)))]) ⟨rfl, rfl, rfl, rfl, rfl, rfl, trivial⟩ ?_
        exact ih2
      · skip
        refine go_iload (q := 43) (gDec iX11_shift_ok 22 rfl) rfl rfl ?_
        refine go_aload_n (q := 44) (gDec iX11_shift_ok 23 rfl) rfl rfl rfl ?_
        refine go_iload_n (q := 45) (gDec iX11_shift_ok 24 rfl) rfl rfl rfl ?_
        refine go_iconst (v := nI 2) (q := 46) (gDec iX11_shift_ok 25 rfl) (by decide) rfl ?_
        refine go_iload (q := 48) (gDec iX11_shift_ok 26 rfl) rfl rfl ?_
        refine go_iaddN (c := 2 + c) (q := 49) (gDec iX11_shift_ok 27 rfl) rfl rfl ?_
        refine go_callV (n2 := 0) (q := 52) kX11_69 (ctX11_of (g := i) (w := 2 + c) (by omega)) (gDec iX11_shift_ok 28 rfl) rfl rfl (by decide) rfl rfl rfl (Nat.le_of_ble_eq_true rfl) rfl (gFit_rm (by decide) (by decide)) rfl ?_
        refine go_top (v' := nI (gNp τ i c)) ((gMRt hM).np hW hi hc rfl) ?_
        refine go_icmp_ge (t := 119) (q := 55) (gDec iX11_shift_ok 29 rfl) (by decide) rfl (fun c52 => False.elim (nI_ge (a := p) (b := gNp τ i c) (by omega) (by omega) c52)) (fun c52 => ?_)
        refine go_iload_n (q := 56) (gDec iX11_shift_ok 30 rfl) rfl rfl rfl ?_
        refine go_iload (q := 58) (gDec iX11_shift_ok 31 rfl) rfl rfl ?_
        refine go_iload (q := 60) (gDec iX11_shift_ok 32 rfl) rfl rfl ?_
        refine go_callS (n2 := 0) (q := 63) kX11_95 (ctX11_pointAt (g := i) (c := c) (p := p)) (gDec iX11_shift_ok 33 rfl) rfl rfl (Nat.le_of_ble_eq_true rfl) rfl (gFit_rm (by decide) (by decide)) rfl ?_
        refine go_istore (q := 65) (gDec iX11_shift_ok 34 rfl) (by decide) rfl ?_
        refine go_aload_n (q := 66) (gDec iX11_shift_ok 35 rfl) rfl rfl rfl ?_
        refine go_aload_n (q := 67) (gDec iX11_shift_ok 36 rfl) rfl rfl rfl ?_
        refine go_getr (r' := 377) (q := 70) fX11_9 (gDec iX11_shift_ok 37 rfl) rfl (by decide) rfl ?_
        refine go_iload (q := 72) (gDec iX11_shift_ok 38 rfl) rfl rfl ?_
        refine go_ialdN (q := 73) (gDec iX11_shift_ok 39 rfl) rfl (by decide) (by omega) (by decide) rfl ?_
        refine go_top (v' := τ.1 10 ((i * 3 + c) * 12 + p)) ((gMRt hM).px hi hc (by omega) rfl) ?_
        refine go_i2l (q := 74) (gDec iX11_shift_ok 40 rfl) rfl ?_
        refine go_iload_n (q := 75) (gDec iX11_shift_ok 41 rfl) rfl rfl rfl ?_
        refine go_i2l (q := 76) (gDec iX11_shift_ok 42 rfl) rfl ?_
        refine go_ladd (q := 77) (gDec iX11_shift_ok 43 rfl) rfl ?_
        refine go_callS (n2 := 0) (q := 80) kX11_99 ctX11_isCoordinate (gDec iX11_shift_ok 44 rfl) rfl rfl (Nat.le_of_ble_eq_true rfl) rfl (gFit_rm (by decide) (by decide)) rfl ?_
        refine go_top (v' := 1) (gWi_t (by rw [l_add]; exact g1)) ?_
        refine go_if_eq (t := 109) (q := 83) (gDec iX11_shift_ok 45 rfl) (by decide) rfl (fun c80 => False.elim (absurd c80 (by decide))) (fun c80 => ?_)
        refine go_aload_n (q := 84) (gDec iX11_shift_ok 46 rfl) rfl rfl rfl ?_
        refine go_getr (r' := 377) (q := 87) fX11_9 (gDec iX11_shift_ok 47 rfl) rfl (by decide) rfl ?_
        refine go_iload (q := 89) (gDec iX11_shift_ok 48 rfl) rfl rfl ?_
        refine go_iconst (v := nI 1) (q := 90) (gDec iX11_shift_ok 49 rfl) (by decide) rfl ?_
        refine go_iaddN (c := 196 + 96 * i + (5 + 2 * (12 * c + p)) + 1) (q := 91) (gDec iX11_shift_ok 50 rfl) rfl rfl ?_
        refine go_ialdN (q := 92) (gDec iX11_shift_ok 51 rfl) rfl (by decide) (by omega) (by decide) rfl ?_
        refine go_top (v' := τ.1 12 ((i * 3 + c) * 12 + p)) ((gMRt hM).py hi hc (by omega) rfl) ?_
        refine go_i2l (q := 93) (gDec iX11_shift_ok 52 rfl) rfl ?_
        refine go_iload_n (q := 94) (gDec iX11_shift_ok 53 rfl) rfl rfl rfl ?_
        refine go_i2l (q := 95) (gDec iX11_shift_ok 54 rfl) rfl ?_
        refine go_ladd (q := 96) (gDec iX11_shift_ok 55 rfl) rfl ?_
        refine go_callS (n2 := 0) (q := 99) kX11_99 ctX11_isCoordinate (gDec iX11_shift_ok 56 rfl) rfl rfl (Nat.le_of_ble_eq_true rfl) rfl (gFit_rm (by decide) (by decide)) rfl ?_
        refine go_top (v' := 0) (gWi_f (by rw [l_add]; exact g2)) ?_
        refine go_if_eq (t := 109) (q := 102) (gDec iX11_shift_ok 57 rfl) (by decide) rfl (fun c99 => ?_) (fun c99 => False.elim (c99 rfl))
        refine go_iconst (v := 2) (q := 110) (gDec iX11_shift_ok 61 rfl) (by decide) rfl ?_
        refine go_puti (q := 113) fX11_54 gft11 (gDec iX11_shift_ok 62 rfl) rfl (by decide) rfl rfl rfl rfl ?_
        rw [gBad_f (fun h9 => g2 h9.2)] at ih2
        refine go_w (show _ = gPut σ 376 5 (oT true) from (gPut_tw _ _ _ _ _)) ?_
        refine go_iinc (v := nI (p + 1)) (q := 116) (gDec iX11_shift_ok 63 rfl) rfl (nI_1 _) (by decide) rfl ?_
        refine go_goto (t := 41) (gDec iX11_shift_ok 64 rfl) (by decide) ?_
        refine go_sub (L' := [(0, .ref (κ.2.1 + 376)), (1, .int (nI i)), (2, .int dx), (3, .int dy), (4, .int (nI c)), (5, .int (nI (p + 1)))]) ⟨rfl, rfl, rfl, rfl, rfl, rfl, trivial⟩ ?_
        exact ih2
    · skip
      refine go_iload (q := 43) (gDec iX11_shift_ok 22 rfl) rfl rfl ?_
      refine go_aload_n (q := 44) (gDec iX11_shift_ok 23 rfl) rfl rfl rfl ?_
      refine go_iload_n (q := 45) (gDec iX11_shift_ok 24 rfl) rfl rfl rfl ?_
      refine go_iconst (v := nI 2) (q := 46) (gDec iX11_shift_ok 25 rfl) (by decide) rfl ?_
      refine go_iload (q := 48) (gDec iX11_shift_ok 26 rfl) rfl rfl ?_
      refine go_iaddN (c := 2 + c) (q := 49) (gDec iX11_shift_ok 27 rfl) rfl rfl ?_
      refine go_callV (n2 := 0) (q := 52) kX11_69 (ctX11_of (g := i) (w := 2 + c) (by omega)) (gDec iX11_shift_ok 28 rfl) rfl rfl (by decide) rfl rfl rfl (Nat.le_of_ble_eq_true rfl) rfl (gFit_rm (by decide) (by decide)) rfl ?_
      refine go_top (v' := nI (gNp τ i c)) ((gMRt hM).np hW hi hc rfl) ?_
      refine go_icmp_ge (t := 119) (q := 55) (gDec iX11_shift_ok 29 rfl) (by decide) rfl (fun c52 => False.elim (nI_ge (a := p) (b := gNp τ i c) (by omega) (by omega) c52)) (fun c52 => ?_)
      refine go_iload_n (q := 56) (gDec iX11_shift_ok 30 rfl) rfl rfl rfl ?_
      refine go_iload (q := 58) (gDec iX11_shift_ok 31 rfl) rfl rfl ?_
      refine go_iload (q := 60) (gDec iX11_shift_ok 32 rfl) rfl rfl ?_
      refine go_callS (n2 := 0) (q := 63) kX11_95 (ctX11_pointAt (g := i) (c := c) (p := p)) (gDec iX11_shift_ok 33 rfl) rfl rfl (Nat.le_of_ble_eq_true rfl) rfl (gFit_rm (by decide) (by decide)) rfl ?_
      refine go_istore (q := 65) (gDec iX11_shift_ok 34 rfl) (by decide) rfl ?_
      refine go_aload_n (q := 66) (gDec iX11_shift_ok 35 rfl) rfl rfl rfl ?_
      refine go_aload_n (q := 67) (gDec iX11_shift_ok 36 rfl) rfl rfl rfl ?_
      refine go_getr (r' := 377) (q := 70) fX11_9 (gDec iX11_shift_ok 37 rfl) rfl (by decide) rfl ?_
      refine go_iload (q := 72) (gDec iX11_shift_ok 38 rfl) rfl rfl ?_
      refine go_ialdN (q := 73) (gDec iX11_shift_ok 39 rfl) rfl (by decide) (by omega) (by decide) rfl ?_
      refine go_top (v' := τ.1 10 ((i * 3 + c) * 12 + p)) ((gMRt hM).px hi hc (by omega) rfl) ?_
      refine go_i2l (q := 74) (gDec iX11_shift_ok 40 rfl) rfl ?_
      refine go_iload_n (q := 75) (gDec iX11_shift_ok 41 rfl) rfl rfl rfl ?_
      refine go_i2l (q := 76) (gDec iX11_shift_ok 42 rfl) rfl ?_
      refine go_ladd (q := 77) (gDec iX11_shift_ok 43 rfl) rfl ?_
      refine go_callS (n2 := 0) (q := 80) kX11_99 ctX11_isCoordinate (gDec iX11_shift_ok 44 rfl) rfl rfl (Nat.le_of_ble_eq_true rfl) rfl (gFit_rm (by decide) (by decide)) rfl ?_
      refine go_top (v' := 0) (gWi_f (by rw [l_add]; exact g1)) ?_
      refine go_if_eq (t := 109) (q := 83) (gDec iX11_shift_ok 45 rfl) (by decide) rfl (fun c80 => ?_) (fun c80 => False.elim (c80 rfl))
      refine go_iconst (v := 2) (q := 110) (gDec iX11_shift_ok 61 rfl) (by decide) rfl ?_
      refine go_puti (q := 113) fX11_54 gft11 (gDec iX11_shift_ok 62 rfl) rfl (by decide) rfl rfl rfl rfl ?_
      rw [gBad_f (fun h9 => g1 h9.1)] at ih2
      refine go_w (show _ = gPut σ 376 5 (oT true) from (gPut_tw _ _ _ _ _)) ?_
      refine go_iinc (v := nI (p + 1)) (q := 116) (gDec iX11_shift_ok 63 rfl) rfl (nI_1 _) (by decide) rfl ?_
      refine go_goto (t := 41) (gDec iX11_shift_ok 64 rfl) (by decide) ?_
      refine go_sub (L' := [(0, .ref (κ.2.1 + 376)), (1, .int (nI i)), (2, .int dx), (3, .int dy), (4, .int (nI c)), (5, .int (nI (p + 1)))]) ⟨rfl, rfl, rfl, rfl, rfl, rfl, trivial⟩ ?_
      exact ih2

set_option maxHeartbeats 4000000 in
set_option maxRecDepth 100000 in
theorem lpX11_shA {κ : gK} {Z : gZ} {σ τ : gST} {i : Nat} {dx dy : Int32} (hW : gDW τ) (hM : gMR τ (σ.1 377)) (hi : i < gNg τ) (hG : ∀ c p, c < gNc τ i → p < gNp τ i c → gMvG τ i dx dy c p) : ∀ (m c : Nat), c + m = gNc τ i → Go κ mX11_shift (gRm 9 0) Z 125 [(0, .ref (κ.2.1 + 376)), (1, .int (nI i)), (2, .int dx), (3, .int dy), (4, .int (nI (gNc τ i)))] [] (gPut σ 376 5 (oT false)) 0 → Go κ mX11_shift (gRm 9 0) Z 20 [(0, .ref (κ.2.1 + 376)), (1, .int (nI i)), (2, .int dx), (3, .int dy), (4, .int (nI c))] [] (gPut σ 376 5 (oT false)) 0 := by
  have h24 := hW.ng24
  have hc3 := hW.nc3 (g := i) (by omega)
  intro m
  induction m with
  | zero =>
    intro c hc h
    have hiN : gNc τ i = c := by omega
    subst hiN
    refine go_aload_n (q := 21) (gDec iX11_shift_ok 11 rfl) rfl rfl rfl ?_
    refine go_geti (q := 24) fX11_54 (gDec iX11_shift_ok 12 rfl) rfl (by decide) rfl ?_
    refine go_top (v' := 0) (rfl) ?_
    refine go_if_ne (t := 125) (q := 27) (gDec iX11_shift_ok 13 rfl) (by decide) rfl (fun c24 => False.elim (c24 rfl)) (fun c24 => ?_)
    refine go_iload (q := 29) (gDec iX11_shift_ok 14 rfl) rfl rfl ?_
    refine go_aload_n (q := 30) (gDec iX11_shift_ok 15 rfl) rfl rfl rfl ?_
    refine go_iload_n (q := 31) (gDec iX11_shift_ok 16 rfl) rfl rfl rfl ?_
    refine go_iconst (v := nI 1) (q := 32) (gDec iX11_shift_ok 17 rfl) (by decide) rfl ?_
    refine go_callV (n2 := 0) (q := 35) kX11_69 (ctX11_of (g := i) (w := 1) (by omega)) (gDec iX11_shift_ok 18 rfl) rfl rfl (by decide) rfl rfl rfl (Nat.le_of_ble_eq_true rfl) rfl (gFit_rm (by decide) (by decide)) rfl ?_
    refine go_top (v' := nI (gNc τ i)) ((gMRt hM).nc hW hi rfl) ?_
    refine go_icmp_ge (t := 125) (q := 38) (gDec iX11_shift_ok 19 rfl) (by decide) rfl (fun c35 => ?_) (fun c35 => False.elim (c35 (Int32.le_refl _)))
    exact h
  | succ m ih =>
    intro c hc h
    refine go_aload_n (q := 21) (gDec iX11_shift_ok 11 rfl) rfl rfl rfl ?_
    refine go_geti (q := 24) fX11_54 (gDec iX11_shift_ok 12 rfl) rfl (by decide) rfl ?_
    refine go_top (v' := 0) (rfl) ?_
    refine go_if_ne (t := 125) (q := 27) (gDec iX11_shift_ok 13 rfl) (by decide) rfl (fun c24 => False.elim (c24 rfl)) (fun c24 => ?_)
    refine go_iload (q := 29) (gDec iX11_shift_ok 14 rfl) rfl rfl ?_
    refine go_aload_n (q := 30) (gDec iX11_shift_ok 15 rfl) rfl rfl rfl ?_
    refine go_iload_n (q := 31) (gDec iX11_shift_ok 16 rfl) rfl rfl rfl ?_
    refine go_iconst (v := nI 1) (q := 32) (gDec iX11_shift_ok 17 rfl) (by decide) rfl ?_
    refine go_callV (n2 := 0) (q := 35) kX11_69 (ctX11_of (g := i) (w := 1) (by omega)) (gDec iX11_shift_ok 18 rfl) rfl rfl (by decide) rfl rfl rfl (Nat.le_of_ble_eq_true rfl) rfl (gFit_rm (by decide) (by decide)) rfl ?_
    refine go_top (v' := nI (gNc τ i)) ((gMRt hM).nc hW hi rfl) ?_
    refine go_icmp_ge (t := 125) (q := 38) (gDec iX11_shift_ok 19 rfl) (by decide) rfl (fun c35 => False.elim (nI_ge (a := c) (b := gNc τ i) (by omega) (by omega) c35)) (fun c35 => ?_)
    refine go_iconst (v := nI 0) (q := 39) (gDec iX11_shift_ok 20 rfl) (by decide) rfl ?_
    refine go_istore (q := 41) (gDec iX11_shift_ok 21 rfl) (by decide) rfl ?_
    refine go_sub (L' := [(0, .ref (κ.2.1 + 376)), (1, .int (nI i)), (2, .int dx), (3, .int dy), (4, .int (nI c)), (5, .int (nI 0))]) ⟨rfl, rfl, rfl, rfl, rfl, rfl, trivial⟩ ?_
    refine lpX11_sh2 hW hM hi (by omega) (gNp τ i c) 0 false (by omega) ?_
    rw [gBad_T _ _ _ rfl (fun p _ hp => hG c p (by omega) (by omega))]
    refine go_iinc (v := nI (c + 1)) (q := 122) (gDec iX11_shift_ok 65 rfl) rfl (nI_1 _) (by decide) rfl ?_
    refine go_goto (t := 20) (gDec iX11_shift_ok 66 rfl) (by decide) ?_
    refine go_sub (L' := [(0, .ref (κ.2.1 + 376)), (1, .int (nI i)), (2, .int dx), (3, .int dy), (4, .int (nI (c + 1)))]) ⟨rfl, rfl, rfl, rfl, rfl, trivial⟩ ?_
    exact ih (c + 1) (by omega) h
set_option maxHeartbeats 4000000 in
set_option maxRecDepth 100000 in
theorem lpX11_shB {κ : gK} {Z : gZ} {σ τ : gST} {i : Nat} {dx dy : Int32} (hW : gDW τ) (hM : gMR τ (σ.1 377)) (hi : i < gNg τ) (h : ∀ c : Nat, Go κ mX11_shift (gRm 9 0) Z 125 [(0, .ref (κ.2.1 + 376)), (1, .int (nI i)), (2, .int dx), (3, .int dy), (4, .int (nI c))] [] (gPut σ 376 5 (oT true)) 0) : ∀ (m c : Nat), c + m = gNc τ i → (¬ ∀ c0 p, c ≤ c0 → c0 < gNc τ i → p < gNp τ i c0 → gMvG τ i dx dy c0 p) → Go κ mX11_shift (gRm 9 0) Z 20 [(0, .ref (κ.2.1 + 376)), (1, .int (nI i)), (2, .int dx), (3, .int dy), (4, .int (nI c))] [] (gPut σ 376 5 (oT false)) 0 := by
  have h24 := hW.ng24
  have hc3 := hW.nc3 (g := i) (by omega)
  intro m
  induction m with
  | zero =>
    intro c hc hn
    exact absurd (fun c0 p h1 h2 => absurd h2 (by omega)) hn
  | succ m ih =>
    intro c hc hn
    cases hb : gLoop (gBad τ i dx dy c) 0 (gNp τ i c) false with
    | false =>
      obtain ⟨-, hall⟩ := gBad_L _ _ _ hb
      have hn2 : ¬ ∀ c0 p, c + 1 ≤ c0 → c0 < gNc τ i → p < gNp τ i c0 → gMvG τ i dx dy c0 p := fun h9 => hn (fun c0 p h1 h2 h3 => by
        rcases Nat.eq_or_lt_of_le h1 with e | e
        · subst e; exact hall p (Nat.zero_le _) (by omega)
        · exact h9 c0 p e h2 h3)
      refine go_aload_n (q := 21) (gDec iX11_shift_ok 11 rfl) rfl rfl rfl ?_
      refine go_geti (q := 24) fX11_54 (gDec iX11_shift_ok 12 rfl) rfl (by decide) rfl ?_
      refine go_top (v' := 0) (rfl) ?_
      refine go_if_ne (t := 125) (q := 27) (gDec iX11_shift_ok 13 rfl) (by decide) rfl (fun c24 => False.elim (c24 rfl)) (fun c24 => ?_)
      refine go_iload (q := 29) (gDec iX11_shift_ok 14 rfl) rfl rfl ?_
      refine go_aload_n (q := 30) (gDec iX11_shift_ok 15 rfl) rfl rfl rfl ?_
      refine go_iload_n (q := 31) (gDec iX11_shift_ok 16 rfl) rfl rfl rfl ?_
      refine go_iconst (v := nI 1) (q := 32) (gDec iX11_shift_ok 17 rfl) (by decide) rfl ?_
      refine go_callV (n2 := 0) (q := 35) kX11_69 (ctX11_of (g := i) (w := 1) (by omega)) (gDec iX11_shift_ok 18 rfl) rfl rfl (by decide) rfl rfl rfl (Nat.le_of_ble_eq_true rfl) rfl (gFit_rm (by decide) (by decide)) rfl ?_
      refine go_top (v' := nI (gNc τ i)) ((gMRt hM).nc hW hi rfl) ?_
      refine go_icmp_ge (t := 125) (q := 38) (gDec iX11_shift_ok 19 rfl) (by decide) rfl (fun c35 => False.elim (nI_ge (a := c) (b := gNc τ i) (by omega) (by omega) c35)) (fun c35 => ?_)
      refine go_iconst (v := nI 0) (q := 39) (gDec iX11_shift_ok 20 rfl) (by decide) rfl ?_
      refine go_istore (q := 41) (gDec iX11_shift_ok 21 rfl) (by decide) rfl ?_
      refine go_sub (L' := [(0, .ref (κ.2.1 + 376)), (1, .int (nI i)), (2, .int dx), (3, .int dy), (4, .int (nI c)), (5, .int (nI 0))]) ⟨rfl, rfl, rfl, rfl, rfl, rfl, trivial⟩ ?_
      refine lpX11_sh2 hW hM hi (by omega) (gNp τ i c) 0 false (by omega) ?_
      rw [hb]
      refine go_iinc (v := nI (c + 1)) (q := 122) (gDec iX11_shift_ok 65 rfl) rfl (nI_1 _) (by decide) rfl ?_
      refine go_goto (t := 20) (gDec iX11_shift_ok 66 rfl) (by decide) ?_
      refine go_sub (L' := [(0, .ref (κ.2.1 + 376)), (1, .int (nI i)), (2, .int dx), (3, .int dy), (4, .int (nI (c + 1)))]) ⟨rfl, rfl, rfl, rfl, rfl, trivial⟩ ?_
      exact ih (c + 1) (by omega) hn2
    | true =>
      refine go_aload_n (q := 21) (gDec iX11_shift_ok 11 rfl) rfl rfl rfl ?_
      refine go_geti (q := 24) fX11_54 (gDec iX11_shift_ok 12 rfl) rfl (by decide) rfl ?_
      refine go_top (v' := 0) (rfl) ?_
      refine go_if_ne (t := 125) (q := 27) (gDec iX11_shift_ok 13 rfl) (by decide) rfl (fun c24 => False.elim (c24 rfl)) (fun c24 => ?_)
      refine go_iload (q := 29) (gDec iX11_shift_ok 14 rfl) rfl rfl ?_
      refine go_aload_n (q := 30) (gDec iX11_shift_ok 15 rfl) rfl rfl rfl ?_
      refine go_iload_n (q := 31) (gDec iX11_shift_ok 16 rfl) rfl rfl rfl ?_
      refine go_iconst (v := nI 1) (q := 32) (gDec iX11_shift_ok 17 rfl) (by decide) rfl ?_
      refine go_callV (n2 := 0) (q := 35) kX11_69 (ctX11_of (g := i) (w := 1) (by omega)) (gDec iX11_shift_ok 18 rfl) rfl rfl (by decide) rfl rfl rfl (Nat.le_of_ble_eq_true rfl) rfl (gFit_rm (by decide) (by decide)) rfl ?_
      refine go_top (v' := nI (gNc τ i)) ((gMRt hM).nc hW hi rfl) ?_
      refine go_icmp_ge (t := 125) (q := 38) (gDec iX11_shift_ok 19 rfl) (by decide) rfl (fun c35 => False.elim (nI_ge (a := c) (b := gNc τ i) (by omega) (by omega) c35)) (fun c35 => ?_)
      refine go_iconst (v := nI 0) (q := 39) (gDec iX11_shift_ok 20 rfl) (by decide) rfl ?_
      refine go_istore (q := 41) (gDec iX11_shift_ok 21 rfl) (by decide) rfl ?_
      refine go_sub (L' := [(0, .ref (κ.2.1 + 376)), (1, .int (nI i)), (2, .int dx), (3, .int dy), (4, .int (nI c)), (5, .int (nI 0))]) ⟨rfl, rfl, rfl, rfl, rfl, rfl, trivial⟩ ?_
      refine lpX11_sh2 hW hM hi (by omega) (gNp τ i c) 0 false (by omega) ?_
      rw [hb]
      refine go_iinc (v := nI (c + 1)) (q := 122) (gDec iX11_shift_ok 65 rfl) rfl (nI_1 _) (by decide) rfl ?_
      refine go_goto (t := 20) (gDec iX11_shift_ok 66 rfl) (by decide) ?_
      refine go_sub (L' := [(0, .ref (κ.2.1 + 376)), (1, .int (nI i)), (2, .int dx), (3, .int dy), (4, .int (nI (c + 1)))]) ⟨rfl, rfl, rfl, rfl, rfl, trivial⟩ ?_
      refine go_aload_n (q := 21) (gDec iX11_shift_ok 11 rfl) rfl rfl rfl ?_
      refine go_geti (q := 24) fX11_54 (gDec iX11_shift_ok 12 rfl) rfl (by decide) rfl ?_
      refine go_top (v' := 2) (rfl) ?_
      refine go_if_ne (t := 125) (q := 27) (gDec iX11_shift_ok 13 rfl) (by decide) rfl (fun c24 => ?_) (fun c24 => False.elim (absurd c24 (by decide)))
      exact h (c + 1)

def mMvI (τ : gST) (i : Nat) (a : gST) : Prop := a.1 377 (196 + 96 * i + 1) = nI (gNc τ i) ∧ ∀ c, c < gNc τ i → a.1 377 (196 + 96 * i + (2 + c)) = nI (gNp τ i c)
theorem mMv_I {τ : gST} {i c : Nat} {dx dy : Int32} (hc3 : gNc τ i ≤ 3) (p : Nat) (a : gST) (h : mMvI τ i a) : mMvI τ i (mMv i c dx dy p a) := by
  obtain ⟨-, -, g3⟩ := mMv_1 i c dx dy p a
  refine ⟨?_, fun k hk => ?_⟩
  · rw [g3, if_neg (by unfold mMq; omega), if_neg (by unfold mMq; omega)]; exact h.1
  · rw [g3, if_neg (by unfold mMq; omega), if_neg (by unfold mMq; omega)]; exact h.2 k hk
theorem mMvC_I {τ : gST} {i c : Nat} {dx dy : Int32} (hc3 : gNc τ i ≤ 3) (a : gST) (h : mMvI τ i a) : mMvI τ i (mMvC i dx dy (gNp τ i) c a) :=
  gLoop_inv (I := mMvI τ i) (fun p a h => mMv_I hc3 p a h) _ _ _ h

set_option maxHeartbeats 4000000 in
set_option maxRecDepth 100000 in
theorem lpX11_mv2 {κ : gK} {Z : gZ} {τ : gST} {i : Nat} {dx dy : Int32} (hW : gDW τ) (hi : i < gNg τ) {c : Nat} (hc : c < gNc τ i) : ∀ (m p : Nat) (a : gST), p + m = gNp τ i c → mMvI τ i a → Go κ mX11_shift (gRm 9 0) Z 211 [(0, .ref (κ.2.1 + 376)), (1, .int (nI i)), (2, .int dx), (3, .int dy), (4, .int (nI c)), (5, .int (nI (gNp τ i c)))] [] (gLoop (mMv i c dx dy) p m a) 0 → Go κ mX11_shift (gRm 9 0) Z 155 [(0, .ref (κ.2.1 + 376)), (1, .int (nI i)), (2, .int dx), (3, .int dy), (4, .int (nI c)), (5, .int (nI p))] [] a 0 := by
  have h24 := hW.ng24
  have hc3 := hW.nc3 (g := i) (by omega)
  have h12 := hW.np12 (g := i) (c := c) (by omega) (by omega)
  intro m
  induction m with
  | zero =>
    intro p a hp hI h
    have hiN : gNp τ i c = p := by omega
    subst hiN
    refine go_iload (q := 157) (gDec iX11_shift_ok 84 rfl) rfl rfl ?_
    refine go_aload_n (q := 158) (gDec iX11_shift_ok 85 rfl) rfl rfl rfl ?_
    refine go_iload_n (q := 159) (gDec iX11_shift_ok 86 rfl) rfl rfl rfl ?_
    refine go_iconst (v := nI 2) (q := 160) (gDec iX11_shift_ok 87 rfl) (by decide) rfl ?_
    refine go_iload (q := 162) (gDec iX11_shift_ok 88 rfl) rfl rfl ?_
    refine go_iaddN (c := 2 + c) (q := 163) (gDec iX11_shift_ok 89 rfl) rfl rfl ?_
    refine go_callV (n2 := 0) (q := 166) kX11_69 (ctX11_of (g := i) (w := 2 + c) (by omega)) (gDec iX11_shift_ok 90 rfl) rfl rfl (by decide) rfl rfl rfl (Nat.le_of_ble_eq_true rfl) rfl (gFit_rm (by decide) (by decide)) rfl ?_
    refine go_top (v' := nI (gNp τ i c)) (hI.2 c hc) ?_
    refine go_icmp_ge (t := 211) (q := 169) (gDec iX11_shift_ok 91 rfl) (by decide) rfl (fun c166 => ?_) (fun c166 => False.elim (c166 (Int32.le_refl _)))
    exact h
  | succ m ih =>
    intro p a hp hI h
    have ih2 := ih (p + 1) (mMv i c dx dy p a) (by omega) (mMv_I hc3 p a hI) h
    refine go_iload (q := 157) (gDec iX11_shift_ok 84 rfl) rfl rfl ?_
    refine go_aload_n (q := 158) (gDec iX11_shift_ok 85 rfl) rfl rfl rfl ?_
    refine go_iload_n (q := 159) (gDec iX11_shift_ok 86 rfl) rfl rfl rfl ?_
    refine go_iconst (v := nI 2) (q := 160) (gDec iX11_shift_ok 87 rfl) (by decide) rfl ?_
    refine go_iload (q := 162) (gDec iX11_shift_ok 88 rfl) rfl rfl ?_
    refine go_iaddN (c := 2 + c) (q := 163) (gDec iX11_shift_ok 89 rfl) rfl rfl ?_
    refine go_callV (n2 := 0) (q := 166) kX11_69 (ctX11_of (g := i) (w := 2 + c) (by omega)) (gDec iX11_shift_ok 90 rfl) rfl rfl (by decide) rfl rfl rfl (Nat.le_of_ble_eq_true rfl) rfl (gFit_rm (by decide) (by decide)) rfl ?_
    refine go_top (v' := nI (gNp τ i c)) (hI.2 c hc) ?_
    refine go_icmp_ge (t := 211) (q := 169) (gDec iX11_shift_ok 91 rfl) (by decide) rfl (fun c166 => False.elim (nI_ge (a := p) (b := gNp τ i c) (by omega) (by omega) c166)) (fun c166 => ?_)
    refine go_aload_n (q := 170) (gDec iX11_shift_ok 92 rfl) rfl rfl rfl ?_
    refine go_getr (r' := 377) (q := 173) fX11_9 (gDec iX11_shift_ok 93 rfl) rfl (by decide) rfl ?_
    refine go_iload_n (q := 174) (gDec iX11_shift_ok 94 rfl) rfl rfl rfl ?_
    refine go_iload (q := 176) (gDec iX11_shift_ok 95 rfl) rfl rfl ?_
    refine go_iload (q := 178) (gDec iX11_shift_ok 96 rfl) rfl rfl ?_
    refine go_callS (n2 := 0) (q := 181) kX11_95 (ctX11_pointAt (g := i) (c := c) (p := p)) (gDec iX11_shift_ok 97 rfl) rfl rfl (Nat.le_of_ble_eq_true rfl) rfl (gFit_rm (by decide) (by decide)) rfl ?_
    refine go_dup2 (q := 182) (gDec iX11_shift_ok 98 rfl) rfl rfl rfl ?_
    refine go_ialdN (q := 183) (gDec iX11_shift_ok 99 rfl) rfl (by decide) (by omega) (by decide) rfl ?_
    refine go_iload_n (q := 184) (gDec iX11_shift_ok 100 rfl) rfl rfl rfl ?_
    refine go_iadd (q := 185) (gDec iX11_shift_ok 101 rfl) rfl ?_
    refine go_iastN (q := 186) (gDec iX11_shift_ok 102 rfl) rfl (by decide) (by omega) (by decide) rfl ?_
    refine go_aload_n (q := 187) (gDec iX11_shift_ok 103 rfl) rfl rfl rfl ?_
    refine go_getr (r' := 377) (q := 190) fX11_9 (gDec iX11_shift_ok 104 rfl) rfl (by decide) rfl ?_
    refine go_iload_n (q := 191) (gDec iX11_shift_ok 105 rfl) rfl rfl rfl ?_
    refine go_iload (q := 193) (gDec iX11_shift_ok 106 rfl) rfl rfl ?_
    refine go_iload (q := 195) (gDec iX11_shift_ok 107 rfl) rfl rfl ?_
    refine go_callS (n2 := 0) (q := 198) kX11_95 (ctX11_pointAt (g := i) (c := c) (p := p)) (gDec iX11_shift_ok 108 rfl) rfl rfl (Nat.le_of_ble_eq_true rfl) rfl (gFit_rm (by decide) (by decide)) rfl ?_
    refine go_iconst (v := nI 1) (q := 199) (gDec iX11_shift_ok 109 rfl) (by decide) rfl ?_
    refine go_iaddN (c := 196 + 96 * i + (5 + 2 * (12 * c + p)) + 1) (q := 200) (gDec iX11_shift_ok 110 rfl) rfl rfl ?_
    refine go_dup2 (q := 201) (gDec iX11_shift_ok 111 rfl) rfl rfl rfl ?_
    refine go_ialdN (q := 202) (gDec iX11_shift_ok 112 rfl) rfl (by decide) (by omega) (by decide) rfl ?_
    refine go_iload_n (q := 203) (gDec iX11_shift_ok 113 rfl) rfl rfl rfl ?_
    refine go_iadd (q := 204) (gDec iX11_shift_ok 114 rfl) rfl ?_
    refine go_iastN (q := 205) (gDec iX11_shift_ok 115 rfl) rfl (by decide) (by omega) (by decide) rfl ?_
    refine go_w (show _ = mMv i c dx dy p a from rfl) ?_
    refine go_iinc (v := nI (p + 1)) (q := 208) (gDec iX11_shift_ok 116 rfl) rfl (nI_1 _) (by decide) rfl ?_
    refine go_goto (t := 155) (gDec iX11_shift_ok 117 rfl) (by decide) ?_
    refine go_sub (L' := [(0, .ref (κ.2.1 + 376)), (1, .int (nI i)), (2, .int dx), (3, .int dy), (4, .int (nI c)), (5, .int (nI (p + 1)))]) ⟨rfl, rfl, rfl, rfl, rfl, rfl, trivial⟩ ?_
    exact ih2
set_option maxHeartbeats 4000000 in
set_option maxRecDepth 100000 in
theorem lpX11_mv1 {κ : gK} {Z : gZ} {τ : gST} {i : Nat} {dx dy : Int32} (hW : gDW τ) (hi : i < gNg τ) : ∀ (m c : Nat) (a : gST), c + m = gNc τ i → mMvI τ i a → Go κ mX11_shift (gRm 9 0) Z 217 [(0, .ref (κ.2.1 + 376)), (1, .int (nI i)), (2, .int dx), (3, .int dy), (4, .int (nI (gNc τ i)))] [] (gLoop (mMvC i dx dy (gNp τ i)) c m a) 0 → Go κ mX11_shift (gRm 9 0) Z 141 [(0, .ref (κ.2.1 + 376)), (1, .int (nI i)), (2, .int dx), (3, .int dy), (4, .int (nI c))] [] a 0 := by
  have h24 := hW.ng24
  have hc3 := hW.nc3 (g := i) (by omega)
  intro m
  induction m with
  | zero =>
    intro c a hc hI h
    have hiN : gNc τ i = c := by omega
    subst hiN
    refine go_iload (q := 143) (gDec iX11_shift_ok 76 rfl) rfl rfl ?_
    refine go_aload_n (q := 144) (gDec iX11_shift_ok 77 rfl) rfl rfl rfl ?_
    refine go_iload_n (q := 145) (gDec iX11_shift_ok 78 rfl) rfl rfl rfl ?_
    refine go_iconst (v := nI 1) (q := 146) (gDec iX11_shift_ok 79 rfl) (by decide) rfl ?_
    refine go_callV (n2 := 0) (q := 149) kX11_69 (ctX11_of (g := i) (w := 1) (by omega)) (gDec iX11_shift_ok 80 rfl) rfl rfl (by decide) rfl rfl rfl (Nat.le_of_ble_eq_true rfl) rfl (gFit_rm (by decide) (by decide)) rfl ?_
    refine go_top (v' := nI (gNc τ i)) (hI.1) ?_
    refine go_icmp_ge (t := 217) (q := 152) (gDec iX11_shift_ok 81 rfl) (by decide) rfl (fun c149 => ?_) (fun c149 => False.elim (c149 (Int32.le_refl _)))
    exact h
  | succ m ih =>
    intro c a hc hI h
    refine go_iload (q := 143) (gDec iX11_shift_ok 76 rfl) rfl rfl ?_
    refine go_aload_n (q := 144) (gDec iX11_shift_ok 77 rfl) rfl rfl rfl ?_
    refine go_iload_n (q := 145) (gDec iX11_shift_ok 78 rfl) rfl rfl rfl ?_
    refine go_iconst (v := nI 1) (q := 146) (gDec iX11_shift_ok 79 rfl) (by decide) rfl ?_
    refine go_callV (n2 := 0) (q := 149) kX11_69 (ctX11_of (g := i) (w := 1) (by omega)) (gDec iX11_shift_ok 80 rfl) rfl rfl (by decide) rfl rfl rfl (Nat.le_of_ble_eq_true rfl) rfl (gFit_rm (by decide) (by decide)) rfl ?_
    refine go_top (v' := nI (gNc τ i)) (hI.1) ?_
    refine go_icmp_ge (t := 217) (q := 152) (gDec iX11_shift_ok 81 rfl) (by decide) rfl (fun c149 => False.elim (nI_ge (a := c) (b := gNc τ i) (by omega) (by omega) c149)) (fun c149 => ?_)
    refine go_iconst (v := nI 0) (q := 153) (gDec iX11_shift_ok 82 rfl) (by decide) rfl ?_
    refine go_istore (q := 155) (gDec iX11_shift_ok 83 rfl) (by decide) rfl ?_
    refine go_sub (L' := [(0, .ref (κ.2.1 + 376)), (1, .int (nI i)), (2, .int dx), (3, .int dy), (4, .int (nI c)), (5, .int (nI 0))]) ⟨rfl, rfl, rfl, rfl, rfl, rfl, trivial⟩ ?_
    refine lpX11_mv2 hW hi (by omega) (gNp τ i c) 0 a (by omega) hI ?_
    refine go_iinc (v := nI (c + 1)) (q := 214) (gDec iX11_shift_ok 118 rfl) rfl (nI_1 _) (by decide) rfl ?_
    refine go_goto (t := 141) (gDec iX11_shift_ok 119 rfl) (by decide) ?_
    refine go_sub (L' := [(0, .ref (κ.2.1 + 376)), (1, .int (nI i)), (2, .int dx), (3, .int dy), (4, .int (nI (c + 1)))]) ⟨rfl, rfl, rfl, rfl, rfl, trivial⟩ ?_
    exact ih (c + 1) (mMvC i dx dy (gNp τ i) c a) (by omega) (mMvC_I hc3 a hI) h

set_option maxHeartbeats 4000000 in
set_option maxRecDepth 100000 in
theorem okw_shift {κ : gK} {σ τ : gST} {i : Nat} {dx dy : Int32} (h : gAll τ σ) (h1 : gInG τ (nI i)) (hi : i < gNg τ) (hG : ∀ c p, c < gNc τ i → p < gNp τ i c → gMvG τ i dx dy c p) : gCt κ mX11_shift 9 [.ref (κ.2.1 + 376), .int (nI i), .int dx, .int dy] σ (rI (gEx false ((gShW τ i dx dy).1 10) (gNp τ i) i (gNc τ i))) (gLoop (mMvC i dx dy (gNp τ i)) 0 (gNc τ i) (gChg (gPut σ 376 5 0) (nA (τ.1 71 2)))) 0 := by
  have hC := h.ci
  have hM := h.mr
  have hW := hC.dw
  have h24 := hW.ng24
  have hM2 : gMR τ ((gChg (gPut σ 376 5 0) (nA (τ.1 71 2))).1 377) := hM
  have hc3 := hW.nc3 (g := i) (by omega)
  obtain ⟨m1, m2, m3⟩ := mt_shift (σ := gChg (gPut σ 376 5 0) (nA (τ.1 71 2))) (dx := dx) (dy := dy) hC hM2 hi hG
  have eR : ∀ k, k < 36 → (gRem τ).1 k = τ.1 k := gRem_D τ
  have eng : gNg (gShW τ i dx dy) = gNg τ := by unfold gNg; rw [m3 2 (by decide) (by decide), eR 2 (by decide)]
  have enc : ∀ g, gNc (gShW τ i dx dy) g = gNc τ g := fun g => by unfold gNc; rw [m3 6 (by decide) (by decide), eR 6 (by decide)]
  have enp : gNp (gShW τ i dx dy) i = gNp τ i := by funext c; unfold gNp; rw [m3 8 (by decide) (by decide), eR 8 (by decide)]
  have hEd : gEd false (gShW τ i dx dy) i = gEx false ((gShW τ i dx dy).1 10) (gNp τ i) i (gNc τ i) := by
    rw [gEd_eq (fun h9 => by rw [enp]; rw [enc] at h9; exact Nat.lt_of_lt_of_le (by decide) (hC.po.1 i 0 hi h9)), enp, enc]
  refine ct_of (by decide +kernel) rfl (Nat.le_of_ble_eq_true rfl) rfl ?_
  refine go_aload_n (q := 1) (gDec iX11_shift_ok 0 rfl) rfl rfl rfl ?_
  refine go_aload_n (q := 2) (gDec iX11_shift_ok 1 rfl) rfl rfl rfl ?_
  refine go_iload_n (q := 3) (gDec iX11_shift_ok 2 rfl) rfl rfl rfl ?_
  refine go_callV (n2 := 0) (q := 6) kX11_65 (ctX11_isGlyph (τ := τ) hW hM) (gDec iX11_shift_ok 3 rfl) rfl rfl (by decide) rfl rfl rfl (Nat.le_of_ble_eq_true rfl) rfl (gFit_rm (by decide) (by decide)) rfl ?_
  refine go_top (v' := 1) (gWi_t (by (try rw [i2l_toInt]); exact h1)) ?_
  refine go_if_eq (t := 13) (q := 9) (gDec iX11_shift_ok 4 rfl) (by decide) rfl (fun c6 => False.elim (absurd c6 (by decide))) (fun c6 => ?_)
  refine go_iconst (v := nI 0) (q := 10) (gDec iX11_shift_ok 5 rfl) (by decide) rfl ?_
  refine go_goto (t := 14) (gDec iX11_shift_ok 6 rfl) (by decide) ?_
  refine go_puti (q := 17) fX11_54 gft11 (gDec iX11_shift_ok 8 rfl) rfl (by decide) rfl rfl rfl rfl ?_
  refine go_iconst (v := nI 0) (q := 18) (gDec iX11_shift_ok 9 rfl) (by decide) rfl ?_
  refine go_istore (q := 20) (gDec iX11_shift_ok 10 rfl) (by decide) rfl ?_
  refine go_w (show _ = gPut σ 376 5 (oT false) from rfl) ?_
  refine go_sub (L' := [(0, .ref (κ.2.1 + 376)), (1, .int (nI i)), (2, .int dx), (3, .int dy), (4, .int (nI 0))]) ⟨rfl, rfl, rfl, rfl, rfl, trivial⟩ ?_
  refine lpX11_shA hW hM hi hG (gNc τ i) 0 (by omega) ?_
  refine go_aload_n (q := 126) (gDec iX11_shift_ok 67 rfl) rfl rfl rfl ?_
  refine go_geti (q := 129) fX11_54 (gDec iX11_shift_ok 68 rfl) rfl (by decide) rfl ?_
  refine go_top (v' := nI 0) (rfl) ?_
  refine go_if_le (t := 134) (q := 132) (gDec iX11_shift_ok 69 rfl) (by decide) rfl (fun c129 => ?_) (fun c129 => False.elim (c129 (by decide)))
  refine go_aload_n (q := 135) (gDec iX11_shift_ok 72 rfl) rfl rfl rfl ?_
  refine go_callV (n2 := 0) (q := 138) kX11_89 (ctX11_change (n := (nA (τ.1 71 2))) h.hr.1 h.n8) (gDec iX11_shift_ok 73 rfl) rfl rfl (by decide) rfl rfl rfl (Nat.le_of_ble_eq_true rfl) rfl (gFit_rm (by decide) (by decide)) rfl ?_
  refine go_w (show _ = gChg (gPut σ 376 5 0) (nA (τ.1 71 2)) from rfl) ?_
  refine go_iconst (v := nI 0) (q := 139) (gDec iX11_shift_ok 74 rfl) (by decide) rfl ?_
  refine go_istore (q := 141) (gDec iX11_shift_ok 75 rfl) (by decide) rfl ?_
  refine go_sub (L' := [(0, .ref (κ.2.1 + 376)), (1, .int (nI i)), (2, .int dx), (3, .int dy), (4, .int (nI 0))]) ⟨rfl, rfl, rfl, rfl, rfl, trivial⟩ ?_
  refine lpX11_mv1 hW hi (gNc τ i) 0 (gChg (gPut σ 376 5 0) (nA (τ.1 71 2))) (by omega) ⟨hM2.nc hW hi rfl, fun c hc => hM2.np hW hi hc rfl⟩ ?_
  refine go_aload_n (q := 218) (gDec iX11_shift_ok 120 rfl) rfl rfl rfl ?_
  refine go_iload_n (q := 219) (gDec iX11_shift_ok 121 rfl) rfl rfl rfl ?_
  refine go_iconst (v := 1) (q := 220) (gDec iX11_shift_ok 122 rfl) (by decide) rfl ?_
  refine go_callV (n2 := 0) (q := 223) kX11_119 (ctX11_edgel (τ := (gShW τ i dx dy)) m1.dw m2 (by rw [eng]; exact hi)) (gDec iX11_shift_ok 123 rfl) rfl rfl (by decide) rfl rfl rfl (Nat.le_of_ble_eq_true rfl) rfl (gFit_rm (by decide) (by decide)) rfl ?_
  refine go_top (v' := gEx false ((gShW τ i dx dy).1 10) (gNp τ i) i (gNc τ i)) (hEd) ?_
  exact go_ireturn (gDec iX11_shift_ok 124 rfl) rfl rfl rfl rfl (by decide)

theorem mMvC_k {i : Nat} {dx dy : Int32} {pm : Nat → Nat} : ∀ (m j : Nat) (a : gST), (∀ k, k ≠ 377 → (gLoop (mMvC i dx dy pm) j m a).1 k = a.1 k) ∧ (gLoop (mMvC i dx dy pm) j m a).2 = a.2 ∧ True
  | 0, j, a => ⟨fun _ _ => rfl, rfl, trivial⟩
  | m + 1, j, a => by
    obtain ⟨h1, h2, -⟩ := mMvC_k (i := i) (dx := dx) (dy := dy) (pm := pm) m (j + 1) (mMvC i dx dy pm j a)
    obtain ⟨g1, g2, -, -⟩ := mMv_in (i := i) (c := j) (dx := dx) (dy := dy) (pm j) 0 a
    exact ⟨fun k hk => (h1 k hk).trans (g1 k hk), h2.trans g2, trivial⟩

set_option maxHeartbeats 4000000 in
set_option maxRecDepth 100000 in
theorem ok_shift {κ : gK} {σ τ : gST} {g dx dy : Int32} (h : gAll τ σ) : gOK κ mX11_shift [.ref (κ.2.1 + 376), .int g, .int dx, .int dy] σ (rI (aI (fShift τ g dx dy).1)) kOA (fShift τ g dx dy) := by
  have hC := h.ci
  have hM := h.mr
  have hW := hC.dw
  have h24 := hW.ng24
  by_cases h1 : gInG τ g
  · obtain ⟨i, hi, rfl⟩ := gInG.ex h1
    have hc3 := hW.nc3 (g := i) (by omega)
    have hiff := gSh_iff (dx := dx) (dy := dy) hC hi
    by_cases hG : ∀ c p, c < gNc τ i → p < gNp τ i c → gMvG τ i dx dy c p
    · rw [show fShift τ (nI i) dx dy = (rI (gEx false ((gShW τ i dx dy).1 10) (gNp τ i) i (gNc τ i)), (gShW τ i dx dy)) from (if_pos h1).trans ((if_pos (by rw [nA_nI (n := i) (by omega)]; exact hiff.mpr hG)).trans (by rw [nA_nI (n := i) (by omega)]))]
      obtain ⟨m1, m2, m3⟩ := mt_shift (σ := gChg (gPut σ 376 5 0) (nA (τ.1 71 2))) (dx := dx) (dy := dy) hC hM hi hG
      have eng : gNg (gShW τ i dx dy) = gNg (gRem τ) := by unfold gNg; rw [m3 2 (by decide) (by decide)]
      obtain ⟨b1, b2, -⟩ := mMvC_k (i := i) (dx := dx) (dy := dy) (pm := gNp τ i) (gNc τ i) 0 (gChg (gPut σ 376 5 0) (nA (τ.1 71 2)))
      exact gOK.ch h (okw_shift h h1 hi hG) ⟨m1, m2⟩ (fun k hk => m3 k (by omega) (by omega)) (by rw [eng, gRem_ng]; exact Nat.le_refl _) (fun k hk => b1 k hk) b2
    · rw [show fShift τ (nI i) dx dy = (xIAE, τ) from (if_pos h1).trans (if_neg (by rw [nA_nI (n := i) (by omega)]; exact fun h9 => hG (hiff.mp h9)))]
      refine gOK.rd h rfl ?_
      refine ct_of (by decide +kernel) rfl (Nat.le_of_ble_eq_true rfl) rfl ?_
      refine go_aload_n (q := 1) (gDec iX11_shift_ok 0 rfl) rfl rfl rfl ?_
      refine go_aload_n (q := 2) (gDec iX11_shift_ok 1 rfl) rfl rfl rfl ?_
      refine go_iload_n (q := 3) (gDec iX11_shift_ok 2 rfl) rfl rfl rfl ?_
      refine go_callV (n2 := 0) (q := 6) kX11_65 (ctX11_isGlyph (τ := τ) hW hM) (gDec iX11_shift_ok 3 rfl) rfl rfl (by decide) rfl rfl rfl (Nat.le_of_ble_eq_true rfl) rfl (gFit_rm (by decide) (by decide)) rfl ?_
      refine go_top (v' := 1) (gWi_t (by (try rw [i2l_toInt]); exact h1)) ?_
      refine go_if_eq (t := 13) (q := 9) (gDec iX11_shift_ok 4 rfl) (by decide) rfl (fun c6 => False.elim (absurd c6 (by decide))) (fun c6 => ?_)
      refine go_iconst (v := nI 0) (q := 10) (gDec iX11_shift_ok 5 rfl) (by decide) rfl ?_
      refine go_goto (t := 14) (gDec iX11_shift_ok 6 rfl) (by decide) ?_
      refine go_puti (q := 17) fX11_54 gft11 (gDec iX11_shift_ok 8 rfl) rfl (by decide) rfl rfl rfl rfl ?_
      refine go_iconst (v := nI 0) (q := 18) (gDec iX11_shift_ok 9 rfl) (by decide) rfl ?_
      refine go_istore (q := 20) (gDec iX11_shift_ok 10 rfl) (by decide) rfl ?_
      refine go_w (show _ = gPut σ 376 5 (oT false) from rfl) ?_
      refine go_sub (L' := [(0, .ref (κ.2.1 + 376)), (1, .int (nI i)), (2, .int dx), (3, .int dy), (4, .int (nI 0))]) ⟨rfl, rfl, rfl, rfl, rfl, trivial⟩ ?_
      refine lpX11_shB hW hM hi (fun c => ?_) (gNc τ i) 0 (by omega) (fun h9 => hG (fun c p => h9 c p (Nat.zero_le _)))
      refine go_aload_n (q := 126) (gDec iX11_shift_ok 67 rfl) rfl rfl rfl ?_
      refine go_geti (q := 129) fX11_54 (gDec iX11_shift_ok 68 rfl) rfl (by decide) rfl ?_
      refine go_top (v' := 2) (rfl) ?_
      refine go_if_le (t := 134) (q := 132) (gDec iX11_shift_ok 69 rfl) (by decide) rfl (fun c129 => False.elim (absurd c129 (by decide))) (fun c129 => ?_)
      refine go_iconst (v := nI 0) (q := 133) (gDec iX11_shift_ok 70 rfl) (by decide) rfl ?_
      exact go_ireturn (gDec iX11_shift_ok 71 rfl) rfl rfl rfl (congrArg (gPut σ 376 5) xc_OA_A) (by decide)
  · rw [show fShift τ g dx dy = (xIOB, τ) from if_neg h1]
    refine gOK.rd h rfl ?_
    refine ct_of (by decide +kernel) rfl (Nat.le_of_ble_eq_true rfl) rfl ?_
    refine go_aload_n (q := 1) (gDec iX11_shift_ok 0 rfl) rfl rfl rfl ?_
    refine go_aload_n (q := 2) (gDec iX11_shift_ok 1 rfl) rfl rfl rfl ?_
    refine go_iload_n (q := 3) (gDec iX11_shift_ok 2 rfl) rfl rfl rfl ?_
    refine go_callV (n2 := 0) (q := 6) kX11_65 (ctX11_isGlyph (τ := τ) hW hM) (gDec iX11_shift_ok 3 rfl) rfl rfl (by decide) rfl rfl rfl (Nat.le_of_ble_eq_true rfl) rfl (gFit_rm (by decide) (by decide)) rfl ?_
    refine go_top (v' := 0) (gWi_f (by (try rw [i2l_toInt]); exact h1)) ?_
    refine go_if_eq (t := 13) (q := 9) (gDec iX11_shift_ok 4 rfl) (by decide) rfl (fun c6 => ?_) (fun c6 => False.elim (c6 rfl))
    refine go_iconst (v := nI 1) (q := 14) (gDec iX11_shift_ok 7 rfl) (by decide) rfl ?_
    refine go_puti (q := 17) fX11_54 gft11 (gDec iX11_shift_ok 8 rfl) rfl (by decide) rfl rfl rfl rfl ?_
    refine go_iconst (v := nI 0) (q := 18) (gDec iX11_shift_ok 9 rfl) (by decide) rfl ?_
    refine go_istore (q := 20) (gDec iX11_shift_ok 10 rfl) (by decide) rfl ?_
    refine go_aload_n (q := 21) (gDec iX11_shift_ok 11 rfl) rfl rfl rfl ?_
    refine go_geti (q := 24) fX11_54 (gDec iX11_shift_ok 12 rfl) rfl (by decide) rfl ?_
    refine go_top (v' := nI 1) rfl ?_
    refine go_if_ne (t := 125) (q := 27) (gDec iX11_shift_ok 13 rfl) (by decide) rfl (fun c24 => ?_) (fun c24 => False.elim (absurd c24 (by decide)))
    refine go_aload_n (q := 126) (gDec iX11_shift_ok 67 rfl) rfl rfl rfl ?_
    refine go_geti (q := 129) fX11_54 (gDec iX11_shift_ok 68 rfl) rfl (by decide) rfl ?_
    refine go_top (v' := nI 1) rfl ?_
    refine go_if_le (t := 134) (q := 132) (gDec iX11_shift_ok 69 rfl) (by decide) rfl (fun c129 => False.elim (absurd c129 (by decide))) (fun c129 => ?_)
    refine go_iconst (v := nI 0) (q := 133) (gDec iX11_shift_ok 70 rfl) (by decide) rfl ?_
    exact go_ireturn (gDec iX11_shift_ok 71 rfl) rfl rfl rfl (congrArg (gPut σ 376 5) xc_OA_O) (by decide)
