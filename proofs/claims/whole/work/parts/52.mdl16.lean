theorem gPut_tw (σ : gST) (a i : Nat) (v w : Int32) : gPut (gPut σ a i v) a i w = gPut σ a i w := by
  apply Prod.ext
  · funext k j
    rw [gPut_at, gPut_at, gPut_at]
    split <;> rfl
  · rfl
theorem gPut_2x {σ : gST} {x y w : Int32} (h : gPut σ 376 5 x = gPut σ 376 5 y) : gPut σ 376 5 x = gPut (gPut σ 376 5 w) 376 5 y := by rw [gPut_tw]; exact h

set_option maxHeartbeats 4000000 in
set_option maxRecDepth 100000 in
theorem okw_pairNew {κ : gK} {σ τ : gST} {i j n : Nat} {v : Int32} (h : gAll τ σ) (q1 : gInG τ (nI i)) (q2 : gInG τ (nI j)) (hv : -300 ≤ v.toInt ∧ v.toInt ≤ 300) (hp : (gPo (σ.1 377) (nI i) (nI j) 0 (nA (τ.1 20 5))) = -1) (hn3 : σ.1 377 3 = nI n) (hn : n < 40) : gCt κ mX11_kernPair 9 [.ref (κ.2.1 + 376), .int (nI i), .int (nI j), .int v] σ (rI (nI (n + 1))) (gPut (gPut (gPut (gPut (gChg (gPut σ 376 5 0) (nA (τ.1 71 2))) 377 (76 + 3 * n) (nI i)) 377 (76 + 3 * n + 1) (nI j)) 377 3 (nI (n + 1))) 377 (76 + 3 * n + 2) v) 0 := by
  have hC := h.ci
  have hM := h.mr
  have hW := hC.dw
  have h24 := hW.ng24
  refine ct_of (by decide +kernel) rfl (Nat.le_of_ble_eq_true rfl) rfl ?_
  refine go_aload_n (q := 1) (gDec iX11_kernPair_ok 0 rfl) rfl rfl rfl ?_
  refine go_aload_n (q := 2) (gDec iX11_kernPair_ok 1 rfl) rfl rfl rfl ?_
  refine go_iload_n (q := 3) (gDec iX11_kernPair_ok 2 rfl) rfl rfl rfl ?_
  refine go_callV (n2 := 0) (q := 6) kX11_65 (ctX11_isGlyph (τ := τ) hW hM) (gDec iX11_kernPair_ok 3 rfl) rfl rfl (by decide) rfl rfl rfl (Nat.le_of_ble_eq_true rfl) rfl (gFit_rm (by decide) (by decide)) rfl ?_
  refine go_top (v' := 1) (gWi_t (by (try rw [i2l_toInt]); exact q1)) ?_
  refine go_if_eq (t := 17) (q := 9) (gDec iX11_kernPair_ok 4 rfl) (by decide) rfl (fun c6 => False.elim (absurd c6 (by decide))) (fun c6 => ?_)
  refine go_aload_n (q := 10) (gDec iX11_kernPair_ok 5 rfl) rfl rfl rfl ?_
  refine go_iload_n (q := 11) (gDec iX11_kernPair_ok 6 rfl) rfl rfl rfl ?_
  refine go_callV (n2 := 0) (q := 14) kX11_65 (ctX11_isGlyph (τ := τ) hW hM) (gDec iX11_kernPair_ok 7 rfl) rfl rfl (by decide) rfl rfl rfl (Nat.le_of_ble_eq_true rfl) rfl (gFit_rm (by decide) (by decide)) rfl ?_
  refine go_top (v' := 1) (gWi_t (by (try rw [i2l_toInt]); exact q2)) ?_
  refine go_if_ne (t := 21) (q := 17) (gDec iX11_kernPair_ok 8 rfl) (by decide) rfl (fun c14 => ?_) (fun c14 => False.elim (absurd c14 (by decide)))
  refine go_iload_n (q := 22) (gDec iX11_kernPair_ok 11 rfl) rfl rfl rfl ?_
  refine go_callS (n2 := 0) (q := 25) kX11_156 ctX11_isKern (gDec iX11_kernPair_ok 12 rfl) rfl rfl (Nat.le_of_ble_eq_true rfl) rfl (gFit_rm (by decide) (by decide)) rfl ?_
  refine go_top (v' := 1) (gWi_t (by (try rw [i2l_toInt]); exact hv)) ?_
  refine go_if_ne (t := 32) (q := 28) (gDec iX11_kernPair_ok 13 rfl) (by decide) rfl (fun c25 => ?_) (fun c25 => False.elim (absurd c25 (by decide)))
  refine go_iconst (v := nI 0) (q := 33) (gDec iX11_kernPair_ok 16 rfl) (by decide) rfl ?_
  refine go_puti (q := 36) fX11_54 gft11 (gDec iX11_kernPair_ok 17 rfl) rfl (by decide) rfl rfl rfl rfl ?_
  refine go_aload_n (q := 37) (gDec iX11_kernPair_ok 18 rfl) rfl rfl rfl ?_
  refine go_iload_n (q := 38) (gDec iX11_kernPair_ok 19 rfl) rfl rfl rfl ?_
  refine go_iload_n (q := 39) (gDec iX11_kernPair_ok 20 rfl) rfl rfl rfl ?_
  refine go_callV (n2 := 0) (q := 42) kX11_163 (ctX11_pairOf (τ := τ) (gMRt hM)) (gDec iX11_kernPair_ok 21 rfl) rfl rfl (by decide) rfl rfl rfl (Nat.le_of_ble_eq_true rfl) rfl (gFit_rm (by decide) (by decide)) rfl ?_
  refine go_top (v' := -1) (hp) ?_
  refine go_istore (q := 44) (gDec iX11_kernPair_ok 22 rfl) (by decide) rfl ?_
  refine go_aload_n (q := 45) (gDec iX11_kernPair_ok 23 rfl) rfl rfl rfl ?_
  refine go_aload_n (q := 46) (gDec iX11_kernPair_ok 24 rfl) rfl rfl rfl ?_
  refine go_geti (q := 49) fX11_54 (gDec iX11_kernPair_ok 25 rfl) rfl (by decide) rfl ?_
  refine go_top (v' := nI 0) rfl ?_
  refine go_if_ne (t := 72) (q := 52) (gDec iX11_kernPair_ok 26 rfl) (by decide) rfl (fun c49 => False.elim (c49 rfl)) (fun c49 => ?_)
  refine go_iload (q := 54) (gDec iX11_kernPair_ok 27 rfl) rfl rfl ?_
  refine go_if_ge (t := 72) (q := 57) (gDec iX11_kernPair_ok 28 rfl) (by decide) rfl (fun c54 => False.elim (absurd c54 (by decide))) (fun c54 => ?_)
  refine go_aload_n (q := 58) (gDec iX11_kernPair_ok 29 rfl) rfl rfl rfl ?_
  refine go_getr (r' := 377) (q := 61) fX11_9 (gDec iX11_kernPair_ok 30 rfl) rfl (by decide) rfl ?_
  refine go_iconst (v := nI 3) (q := 62) (gDec iX11_kernPair_ok 31 rfl) (by decide) rfl ?_
  refine go_ialdN (q := 63) (gDec iX11_kernPair_ok 32 rfl) rfl (by decide) (j := 3) (by omega) (by decide) rfl ?_
  refine go_top (v' := nI n) (hn3) ?_
  refine go_bipush (v := nI 40) (q := 65) (gDec iX11_kernPair_ok 33 rfl) (by decide) rfl ?_
  refine go_icmp_ne (t := 72) (q := 68) (gDec iX11_kernPair_ok 34 rfl) (by decide) rfl (fun c65 => ?_) (fun c65 => False.elim (absurd ((nI_eq (a := n) (b := 40) (by omega) (by decide)).mp c65) (by omega)))
  refine go_aload_n (q := 73) (gDec iX11_kernPair_ok 37 rfl) rfl rfl rfl ?_
  refine go_geti (q := 76) fX11_54 (gDec iX11_kernPair_ok 38 rfl) rfl (by decide) rfl ?_
  refine go_top (v' := nI 0) rfl ?_
  refine go_puti (q := 79) fX11_54 gft11 (gDec iX11_kernPair_ok 39 rfl) rfl (by decide) rfl rfl rfl rfl ?_
  refine go_aload_n (q := 80) (gDec iX11_kernPair_ok 40 rfl) rfl rfl rfl ?_
  refine go_geti (q := 83) fX11_54 (gDec iX11_kernPair_ok 41 rfl) rfl (by decide) rfl ?_
  refine go_top (v' := nI 0) rfl ?_
  refine go_if_le (t := 88) (q := 86) (gDec iX11_kernPair_ok 42 rfl) (by decide) rfl (fun c83 => ?_) (fun c83 => False.elim (c83 (by decide)))
  refine go_aload_n (q := 89) (gDec iX11_kernPair_ok 45 rfl) rfl rfl rfl ?_
  refine go_callV (n2 := 0) (q := 92) kX11_89 (ctX11_change (n := (nA (τ.1 71 2))) h.hr.1 h.n8) (gDec iX11_kernPair_ok 46 rfl) rfl rfl (by decide) rfl rfl rfl (Nat.le_of_ble_eq_true rfl) rfl (gFit_rm (by decide) (by decide)) rfl ?_
  refine go_w (show _ = gChg (gPut σ 376 5 0) (nA (τ.1 71 2)) from congrArg (fun w => gChg w (nA (τ.1 71 2))) (gPut_tw σ 376 5 (nI 0) (nI 0))) ?_
  refine go_iload (q := 94) (gDec iX11_kernPair_ok 47 rfl) rfl rfl ?_
  refine go_if_ge (t := 143) (q := 97) (gDec iX11_kernPair_ok 48 rfl) (by decide) rfl (fun c94 => False.elim (absurd c94 (by decide))) (fun c94 => ?_)
  refine go_aload_n (q := 98) (gDec iX11_kernPair_ok 49 rfl) rfl rfl rfl ?_
  refine go_getr (r' := 377) (q := 101) fX11_9 (gDec iX11_kernPair_ok 50 rfl) rfl (by decide) rfl ?_
  refine go_iconst (v := nI 3) (q := 102) (gDec iX11_kernPair_ok 51 rfl) (by decide) rfl ?_
  refine go_ialdN (q := 103) (gDec iX11_kernPair_ok 52 rfl) rfl (by decide) (j := 3) (by omega) (by decide) rfl ?_
  refine go_top (v' := nI n) (hn3) ?_
  refine go_istore (q := 105) (gDec iX11_kernPair_ok 53 rfl) (by decide) rfl ?_
  refine go_aload_n (q := 106) (gDec iX11_kernPair_ok 54 rfl) rfl rfl rfl ?_
  refine go_getr (r' := 377) (q := 109) fX11_9 (gDec iX11_kernPair_ok 55 rfl) rfl (by decide) rfl ?_
  refine go_bipush (v := nI 76) (q := 111) (gDec iX11_kernPair_ok 56 rfl) (by decide) rfl ?_
  refine go_iconst (v := nI 3) (q := 112) (gDec iX11_kernPair_ok 57 rfl) (by decide) rfl ?_
  refine go_iload (q := 114) (gDec iX11_kernPair_ok 58 rfl) rfl rfl ?_
  refine go_imulN (c := 3 * n) (q := 115) (gDec iX11_kernPair_ok 59 rfl) rfl rfl ?_
  refine go_iaddN (c := 76 + (3 * n)) (q := 116) (gDec iX11_kernPair_ok 60 rfl) rfl rfl ?_
  refine go_iload_n (q := 117) (gDec iX11_kernPair_ok 61 rfl) rfl rfl rfl ?_
  refine go_iastN (q := 118) (gDec iX11_kernPair_ok 62 rfl) rfl (by decide) (by omega) (by decide) rfl ?_
  refine go_aload_n (q := 119) (gDec iX11_kernPair_ok 63 rfl) rfl rfl rfl ?_
  refine go_getr (r' := 377) (q := 122) fX11_9 (gDec iX11_kernPair_ok 64 rfl) rfl (by decide) rfl ?_
  refine go_bipush (v := nI 76) (q := 124) (gDec iX11_kernPair_ok 65 rfl) (by decide) rfl ?_
  refine go_iconst (v := nI 3) (q := 125) (gDec iX11_kernPair_ok 66 rfl) (by decide) rfl ?_
  refine go_iload (q := 127) (gDec iX11_kernPair_ok 67 rfl) rfl rfl ?_
  refine go_imulN (c := 3 * n) (q := 128) (gDec iX11_kernPair_ok 68 rfl) rfl rfl ?_
  refine go_iaddN (c := 76 + (3 * n)) (q := 129) (gDec iX11_kernPair_ok 69 rfl) rfl rfl ?_
  refine go_iconst (v := nI 1) (q := 130) (gDec iX11_kernPair_ok 70 rfl) (by decide) rfl ?_
  refine go_iaddN (c := 76 + (3 * n) + 1) (q := 131) (gDec iX11_kernPair_ok 71 rfl) rfl rfl ?_
  refine go_iload_n (q := 132) (gDec iX11_kernPair_ok 72 rfl) rfl rfl rfl ?_
  refine go_iastN (q := 133) (gDec iX11_kernPair_ok 73 rfl) rfl (by decide) (by omega) (by decide) rfl ?_
  refine go_aload_n (q := 134) (gDec iX11_kernPair_ok 74 rfl) rfl rfl rfl ?_
  refine go_getr (r' := 377) (q := 137) fX11_9 (gDec iX11_kernPair_ok 75 rfl) rfl (by decide) rfl ?_
  refine go_iconst (v := nI 3) (q := 138) (gDec iX11_kernPair_ok 76 rfl) (by decide) rfl ?_
  refine go_dup2 (q := 139) (gDec iX11_kernPair_ok 77 rfl) rfl rfl rfl ?_
  refine go_ialdN (q := 140) (gDec iX11_kernPair_ok 78 rfl) rfl (by decide) (j := 3) (by omega) (by decide) rfl ?_
  refine go_top (v' := nI n) (by rw [gPut_at, if_neg (by omega), gPut_at, if_neg (by omega)]; exact hn3) ?_
  refine go_iconst (v := nI 1) (q := 141) (gDec iX11_kernPair_ok 79 rfl) (by decide) rfl ?_
  refine go_iaddN (c := n + 1) (q := 142) (gDec iX11_kernPair_ok 80 rfl) rfl rfl ?_
  refine go_iastN (q := 143) (gDec iX11_kernPair_ok 81 rfl) rfl (by decide) (j := 3) (by omega) (by decide) rfl ?_
  refine go_aload_n (q := 144) (gDec iX11_kernPair_ok 82 rfl) rfl rfl rfl ?_
  refine go_getr (r' := 377) (q := 147) fX11_9 (gDec iX11_kernPair_ok 83 rfl) rfl (by decide) rfl ?_
  refine go_bipush (v := nI 76) (q := 149) (gDec iX11_kernPair_ok 84 rfl) (by decide) rfl ?_
  refine go_iconst (v := nI 3) (q := 150) (gDec iX11_kernPair_ok 85 rfl) (by decide) rfl ?_
  refine go_iload (q := 152) (gDec iX11_kernPair_ok 86 rfl) rfl rfl ?_
  refine go_imulN (c := 3 * n) (q := 153) (gDec iX11_kernPair_ok 87 rfl) rfl rfl ?_
  refine go_iaddN (c := 76 + (3 * n)) (q := 154) (gDec iX11_kernPair_ok 88 rfl) rfl rfl ?_
  refine go_iconst (v := nI 2) (q := 155) (gDec iX11_kernPair_ok 89 rfl) (by decide) rfl ?_
  refine go_iaddN (c := 76 + (3 * n) + 2) (q := 156) (gDec iX11_kernPair_ok 90 rfl) rfl rfl ?_
  refine go_iload_n (q := 157) (gDec iX11_kernPair_ok 91 rfl) rfl rfl rfl ?_
  refine go_iastN (q := 158) (gDec iX11_kernPair_ok 92 rfl) rfl (by decide) (by omega) (by decide) rfl ?_
  refine go_aload_n (q := 159) (gDec iX11_kernPair_ok 93 rfl) rfl rfl rfl ?_
  refine go_getr (r' := 377) (q := 162) fX11_9 (gDec iX11_kernPair_ok 94 rfl) rfl (by decide) rfl ?_
  refine go_iconst (v := nI 3) (q := 163) (gDec iX11_kernPair_ok 95 rfl) (by decide) rfl ?_
  refine go_ialdN (q := 164) (gDec iX11_kernPair_ok 96 rfl) rfl (by decide) (j := 3) (by omega) (by decide) rfl ?_
  refine go_top (v' := nI (n + 1)) (by rw [gPut_at, if_neg (by omega), gPut_at, if_pos ⟨rfl, rfl⟩]) ?_
  exact go_ireturn (gDec iX11_kernPair_ok 97 rfl) rfl rfl rfl rfl (by decide)
set_option maxHeartbeats 4000000 in
set_option maxRecDepth 100000 in
theorem okw_pairOld {κ : gK} {σ τ : gST} {i j n k : Nat} {v : Int32} (h : gAll τ σ) (q1 : gInG τ (nI i)) (q2 : gInG τ (nI j)) (hv : -300 ≤ v.toInt ∧ v.toInt ≤ 300) (hp : (gPo (σ.1 377) (nI i) (nI j) 0 (nA (τ.1 20 5))) = nI k) (hk : k < 40) (hn3 : σ.1 377 3 = nI n) : gCt κ mX11_kernPair 9 [.ref (κ.2.1 + 376), .int (nI i), .int (nI j), .int v] σ (rI (nI n)) (gPut (gChg (gPut σ 376 5 0) (nA (τ.1 71 2))) 377 (76 + 3 * k + 2) v) 0 := by
  have hC := h.ci
  have hM := h.mr
  have hW := hC.dw
  have h24 := hW.ng24
  refine ct_of (by decide +kernel) rfl (Nat.le_of_ble_eq_true rfl) rfl ?_
  refine go_aload_n (q := 1) (gDec iX11_kernPair_ok 0 rfl) rfl rfl rfl ?_
  refine go_aload_n (q := 2) (gDec iX11_kernPair_ok 1 rfl) rfl rfl rfl ?_
  refine go_iload_n (q := 3) (gDec iX11_kernPair_ok 2 rfl) rfl rfl rfl ?_
  refine go_callV (n2 := 0) (q := 6) kX11_65 (ctX11_isGlyph (τ := τ) hW hM) (gDec iX11_kernPair_ok 3 rfl) rfl rfl (by decide) rfl rfl rfl (Nat.le_of_ble_eq_true rfl) rfl (gFit_rm (by decide) (by decide)) rfl ?_
  refine go_top (v' := 1) (gWi_t (by (try rw [i2l_toInt]); exact q1)) ?_
  refine go_if_eq (t := 17) (q := 9) (gDec iX11_kernPair_ok 4 rfl) (by decide) rfl (fun c6 => False.elim (absurd c6 (by decide))) (fun c6 => ?_)
  refine go_aload_n (q := 10) (gDec iX11_kernPair_ok 5 rfl) rfl rfl rfl ?_
  refine go_iload_n (q := 11) (gDec iX11_kernPair_ok 6 rfl) rfl rfl rfl ?_
  refine go_callV (n2 := 0) (q := 14) kX11_65 (ctX11_isGlyph (τ := τ) hW hM) (gDec iX11_kernPair_ok 7 rfl) rfl rfl (by decide) rfl rfl rfl (Nat.le_of_ble_eq_true rfl) rfl (gFit_rm (by decide) (by decide)) rfl ?_
  refine go_top (v' := 1) (gWi_t (by (try rw [i2l_toInt]); exact q2)) ?_
  refine go_if_ne (t := 21) (q := 17) (gDec iX11_kernPair_ok 8 rfl) (by decide) rfl (fun c14 => ?_) (fun c14 => False.elim (absurd c14 (by decide)))
  refine go_iload_n (q := 22) (gDec iX11_kernPair_ok 11 rfl) rfl rfl rfl ?_
  refine go_callS (n2 := 0) (q := 25) kX11_156 ctX11_isKern (gDec iX11_kernPair_ok 12 rfl) rfl rfl (Nat.le_of_ble_eq_true rfl) rfl (gFit_rm (by decide) (by decide)) rfl ?_
  refine go_top (v' := 1) (gWi_t (by (try rw [i2l_toInt]); exact hv)) ?_
  refine go_if_ne (t := 32) (q := 28) (gDec iX11_kernPair_ok 13 rfl) (by decide) rfl (fun c25 => ?_) (fun c25 => False.elim (absurd c25 (by decide)))
  refine go_iconst (v := nI 0) (q := 33) (gDec iX11_kernPair_ok 16 rfl) (by decide) rfl ?_
  refine go_puti (q := 36) fX11_54 gft11 (gDec iX11_kernPair_ok 17 rfl) rfl (by decide) rfl rfl rfl rfl ?_
  refine go_aload_n (q := 37) (gDec iX11_kernPair_ok 18 rfl) rfl rfl rfl ?_
  refine go_iload_n (q := 38) (gDec iX11_kernPair_ok 19 rfl) rfl rfl rfl ?_
  refine go_iload_n (q := 39) (gDec iX11_kernPair_ok 20 rfl) rfl rfl rfl ?_
  refine go_callV (n2 := 0) (q := 42) kX11_163 (ctX11_pairOf (τ := τ) (gMRt hM)) (gDec iX11_kernPair_ok 21 rfl) rfl rfl (by decide) rfl rfl rfl (Nat.le_of_ble_eq_true rfl) rfl (gFit_rm (by decide) (by decide)) rfl ?_
  refine go_top (v' := nI k) (hp) ?_
  refine go_istore (q := 44) (gDec iX11_kernPair_ok 22 rfl) (by decide) rfl ?_
  refine go_aload_n (q := 45) (gDec iX11_kernPair_ok 23 rfl) rfl rfl rfl ?_
  refine go_aload_n (q := 46) (gDec iX11_kernPair_ok 24 rfl) rfl rfl rfl ?_
  refine go_geti (q := 49) fX11_54 (gDec iX11_kernPair_ok 25 rfl) rfl (by decide) rfl ?_
  refine go_top (v' := nI 0) rfl ?_
  refine go_if_ne (t := 72) (q := 52) (gDec iX11_kernPair_ok 26 rfl) (by decide) rfl (fun c49 => False.elim (c49 rfl)) (fun c49 => ?_)
  refine go_iload (q := 54) (gDec iX11_kernPair_ok 27 rfl) rfl rfl ?_
  refine go_if_ge (t := 72) (q := 57) (gDec iX11_kernPair_ok 28 rfl) (by decide) rfl (fun c54 => ?_) (fun c54 => False.elim (c54 (nI_pos' (by omega))))
  refine go_aload_n (q := 73) (gDec iX11_kernPair_ok 37 rfl) rfl rfl rfl ?_
  refine go_geti (q := 76) fX11_54 (gDec iX11_kernPair_ok 38 rfl) rfl (by decide) rfl ?_
  refine go_top (v' := nI 0) rfl ?_
  refine go_puti (q := 79) fX11_54 gft11 (gDec iX11_kernPair_ok 39 rfl) rfl (by decide) rfl rfl rfl rfl ?_
  refine go_aload_n (q := 80) (gDec iX11_kernPair_ok 40 rfl) rfl rfl rfl ?_
  refine go_geti (q := 83) fX11_54 (gDec iX11_kernPair_ok 41 rfl) rfl (by decide) rfl ?_
  refine go_top (v' := nI 0) rfl ?_
  refine go_if_le (t := 88) (q := 86) (gDec iX11_kernPair_ok 42 rfl) (by decide) rfl (fun c83 => ?_) (fun c83 => False.elim (c83 (by decide)))
  refine go_aload_n (q := 89) (gDec iX11_kernPair_ok 45 rfl) rfl rfl rfl ?_
  refine go_callV (n2 := 0) (q := 92) kX11_89 (ctX11_change (n := (nA (τ.1 71 2))) h.hr.1 h.n8) (gDec iX11_kernPair_ok 46 rfl) rfl rfl (by decide) rfl rfl rfl (Nat.le_of_ble_eq_true rfl) rfl (gFit_rm (by decide) (by decide)) rfl ?_
  refine go_w (show _ = gChg (gPut σ 376 5 0) (nA (τ.1 71 2)) from congrArg (fun w => gChg w (nA (τ.1 71 2))) (gPut_tw σ 376 5 (nI 0) (nI 0))) ?_
  refine go_iload (q := 94) (gDec iX11_kernPair_ok 47 rfl) rfl rfl ?_
  refine go_if_ge (t := 143) (q := 97) (gDec iX11_kernPair_ok 48 rfl) (by decide) rfl (fun c94 => ?_) (fun c94 => False.elim (c94 (nI_pos' (by omega))))
  refine go_aload_n (q := 144) (gDec iX11_kernPair_ok 82 rfl) rfl rfl rfl ?_
  refine go_getr (r' := 377) (q := 147) fX11_9 (gDec iX11_kernPair_ok 83 rfl) rfl (by decide) rfl ?_
  refine go_bipush (v := nI 76) (q := 149) (gDec iX11_kernPair_ok 84 rfl) (by decide) rfl ?_
  refine go_iconst (v := nI 3) (q := 150) (gDec iX11_kernPair_ok 85 rfl) (by decide) rfl ?_
  refine go_iload (q := 152) (gDec iX11_kernPair_ok 86 rfl) rfl rfl ?_
  refine go_imulN (c := 3 * k) (q := 153) (gDec iX11_kernPair_ok 87 rfl) rfl rfl ?_
  refine go_iaddN (c := 76 + (3 * k)) (q := 154) (gDec iX11_kernPair_ok 88 rfl) rfl rfl ?_
  refine go_iconst (v := nI 2) (q := 155) (gDec iX11_kernPair_ok 89 rfl) (by decide) rfl ?_
  refine go_iaddN (c := 76 + (3 * k) + 2) (q := 156) (gDec iX11_kernPair_ok 90 rfl) rfl rfl ?_
  refine go_iload_n (q := 157) (gDec iX11_kernPair_ok 91 rfl) rfl rfl rfl ?_
  refine go_iastN (q := 158) (gDec iX11_kernPair_ok 92 rfl) rfl (by decide) (by omega) (by decide) rfl ?_
  refine go_aload_n (q := 159) (gDec iX11_kernPair_ok 93 rfl) rfl rfl rfl ?_
  refine go_getr (r' := 377) (q := 162) fX11_9 (gDec iX11_kernPair_ok 94 rfl) rfl (by decide) rfl ?_
  refine go_iconst (v := nI 3) (q := 163) (gDec iX11_kernPair_ok 95 rfl) (by decide) rfl ?_
  refine go_ialdN (q := 164) (gDec iX11_kernPair_ok 96 rfl) rfl (by decide) (j := 3) (by omega) (by decide) rfl ?_
  refine go_top (v' := nI n) (by rw [gPut_at, if_neg (by omega)]; exact hn3) ?_
  exact go_ireturn (gDec iX11_kernPair_ok 97 rfl) rfl rfl rfl rfl (by decide)

set_option maxHeartbeats 4000000 in
set_option maxRecDepth 100000 in
theorem ok_kernPair {κ : gK} {σ τ : gST} {g h0 v : Int32} (h : gAll τ σ) : gOK κ mX11_kernPair [.ref (κ.2.1 + 376), .int g, .int h0, .int v] σ (rI (aI (fKernPair τ g h0 v).1)) kOAS (fKernPair τ g h0 v) := by
  have hC := h.ci
  have hM := h.mr
  have hW := hC.dw
  have h24 := hW.ng24
  have hR := gRem_1 τ
  have eR20 : (gRem τ).1 20 5 = τ.1 20 5 := hR.1.2.2.1
  have eR28 : (gRem τ).1 28 = τ.1 28 := (gRem_D τ) 28 (by decide)
  have h40 := hM.mp.n40
  by_cases h1 : gInG τ g
  · by_cases h1b : gInG τ h0
    · by_cases h2 : -300 ≤ v.toInt ∧ v.toInt ≤ 300
      · obtain ⟨i, hi, rfl⟩ := gInG.ex h1
        obtain ⟨j, hj, rfl⟩ := gInG.ex h1b
        have ho : ∀ k, k ≠ 20 → k ≠ 28 → (gTlP (gRem τ) i j v).1 k = (gRem τ).1 k := fun k q1 q2 => by
          unfold gTlP
          rw [gPut_ne _ _ _ q2]
          split
          · exact gPut_ne _ _ _ q1
          · rfl
        by_cases h4 : ¬ τ.1 20 5 < 40 ∧ τ.1 28 (i * 24 + j) = 301
        · rw [show fKernPair τ (nI i) (nI j) v = (xISE, τ) from (if_pos ⟨h1, h1b⟩).trans ((if_pos h2).trans (if_pos (by rw [nA_nI (by omega), nA_nI (by omega)]; exact h4)))]
          have hn40 : σ.1 377 3 = nI 40 := by
            rw [hM.pn]
            have h9 := h4.1
            rw [nA_n hC.kw.2.2.2.1.1] at h9
            have h8 : ¬ nA (τ.1 20 5) < 40 := fun h7 => h9 ((nI_ltI (a := nA (τ.1 20 5)) (b := 40) (by omega) (by decide)).mpr h7)
            exact congrArg nI (by omega)
          refine gOK.rd h rfl ?_
          refine ct_of (by decide +kernel) rfl (Nat.le_of_ble_eq_true rfl) rfl ?_
          refine go_aload_n (q := 1) (gDec iX11_kernPair_ok 0 rfl) rfl rfl rfl ?_
          refine go_aload_n (q := 2) (gDec iX11_kernPair_ok 1 rfl) rfl rfl rfl ?_
          refine go_iload_n (q := 3) (gDec iX11_kernPair_ok 2 rfl) rfl rfl rfl ?_
          refine go_callV (n2 := 0) (q := 6) kX11_65 (ctX11_isGlyph (τ := τ) hW hM) (gDec iX11_kernPair_ok 3 rfl) rfl rfl (by decide) rfl rfl rfl (Nat.le_of_ble_eq_true rfl) rfl (gFit_rm (by decide) (by decide)) rfl ?_
          refine go_top (v' := 1) (gWi_t (by (try rw [i2l_toInt]); exact h1)) ?_
          refine go_if_eq (t := 17) (q := 9) (gDec iX11_kernPair_ok 4 rfl) (by decide) rfl (fun c6 => False.elim (absurd c6 (by decide))) (fun c6 => ?_)
          refine go_aload_n (q := 10) (gDec iX11_kernPair_ok 5 rfl) rfl rfl rfl ?_
          refine go_iload_n (q := 11) (gDec iX11_kernPair_ok 6 rfl) rfl rfl rfl ?_
          refine go_callV (n2 := 0) (q := 14) kX11_65 (ctX11_isGlyph (τ := τ) hW hM) (gDec iX11_kernPair_ok 7 rfl) rfl rfl (by decide) rfl rfl rfl (Nat.le_of_ble_eq_true rfl) rfl (gFit_rm (by decide) (by decide)) rfl ?_
          refine go_top (v' := 1) (gWi_t (by (try rw [i2l_toInt]); exact h1b)) ?_
          refine go_if_ne (t := 21) (q := 17) (gDec iX11_kernPair_ok 8 rfl) (by decide) rfl (fun c14 => ?_) (fun c14 => False.elim (absurd c14 (by decide)))
          refine go_iload_n (q := 22) (gDec iX11_kernPair_ok 11 rfl) rfl rfl rfl ?_
          refine go_callS (n2 := 0) (q := 25) kX11_156 ctX11_isKern (gDec iX11_kernPair_ok 12 rfl) rfl rfl (Nat.le_of_ble_eq_true rfl) rfl (gFit_rm (by decide) (by decide)) rfl ?_
          refine go_top (v' := 1) (gWi_t (by (try rw [i2l_toInt]); exact h2)) ?_
          refine go_if_ne (t := 32) (q := 28) (gDec iX11_kernPair_ok 13 rfl) (by decide) rfl (fun c25 => ?_) (fun c25 => False.elim (absurd c25 (by decide)))
          refine go_iconst (v := nI 0) (q := 33) (gDec iX11_kernPair_ok 16 rfl) (by decide) rfl ?_
          refine go_puti (q := 36) fX11_54 gft11 (gDec iX11_kernPair_ok 17 rfl) rfl (by decide) rfl rfl rfl rfl ?_
          refine go_aload_n (q := 37) (gDec iX11_kernPair_ok 18 rfl) rfl rfl rfl ?_
          refine go_iload_n (q := 38) (gDec iX11_kernPair_ok 19 rfl) rfl rfl rfl ?_
          refine go_iload_n (q := 39) (gDec iX11_kernPair_ok 20 rfl) rfl rfl rfl ?_
          refine go_callV (n2 := 0) (q := 42) kX11_163 (ctX11_pairOf (τ := τ) (gMRt hM)) (gDec iX11_kernPair_ok 21 rfl) rfl rfl (by decide) rfl rfl rfl (Nat.le_of_ble_eq_true rfl) rfl (gFit_rm (by decide) (by decide)) rfl ?_
          refine go_top (v' := -1) (gPo_none (gMRt hM).mp (by omega) (by omega) h4.2) ?_
          refine go_istore (q := 44) (gDec iX11_kernPair_ok 22 rfl) (by decide) rfl ?_
          refine go_aload_n (q := 45) (gDec iX11_kernPair_ok 23 rfl) rfl rfl rfl ?_
          refine go_aload_n (q := 46) (gDec iX11_kernPair_ok 24 rfl) rfl rfl rfl ?_
          refine go_geti (q := 49) fX11_54 (gDec iX11_kernPair_ok 25 rfl) rfl (by decide) rfl ?_
          refine go_top (v' := nI 0) rfl ?_
          refine go_if_ne (t := 72) (q := 52) (gDec iX11_kernPair_ok 26 rfl) (by decide) rfl (fun c49 => False.elim (c49 rfl)) (fun c49 => ?_)
          refine go_iload (q := 54) (gDec iX11_kernPair_ok 27 rfl) rfl rfl ?_
          refine go_if_ge (t := 72) (q := 57) (gDec iX11_kernPair_ok 28 rfl) (by decide) rfl (fun c54 => False.elim (absurd c54 (by decide))) (fun c54 => ?_)
          refine go_aload_n (q := 58) (gDec iX11_kernPair_ok 29 rfl) rfl rfl rfl ?_
          refine go_getr (r' := 377) (q := 61) fX11_9 (gDec iX11_kernPair_ok 30 rfl) rfl (by decide) rfl ?_
          refine go_iconst (v := nI 3) (q := 62) (gDec iX11_kernPair_ok 31 rfl) (by decide) rfl ?_
          refine go_ialdN (q := 63) (gDec iX11_kernPair_ok 32 rfl) rfl (by decide) (j := 3) (by omega) (by decide) rfl ?_
          refine go_top (v' := nI 40) (hn40) ?_
          refine go_bipush (v := nI 40) (q := 65) (gDec iX11_kernPair_ok 33 rfl) (by decide) rfl ?_
          refine go_icmp_ne (t := 72) (q := 68) (gDec iX11_kernPair_ok 34 rfl) (by decide) rfl (fun c65 => False.elim (c65 rfl)) (fun c65 => ?_)
          refine go_iconst (v := nI 3) (q := 69) (gDec iX11_kernPair_ok 35 rfl) (by decide) rfl ?_
          refine go_goto (t := 76) (gDec iX11_kernPair_ok 36 rfl) (by decide) ?_
          refine go_puti (q := 79) fX11_54 gft11 (gDec iX11_kernPair_ok 39 rfl) rfl (by decide) rfl rfl rfl rfl ?_
          refine go_aload_n (q := 80) (gDec iX11_kernPair_ok 40 rfl) rfl rfl rfl ?_
          refine go_geti (q := 83) fX11_54 (gDec iX11_kernPair_ok 41 rfl) rfl (by decide) rfl ?_
          refine go_top (v' := nI 3) rfl ?_
          refine go_if_le (t := 88) (q := 86) (gDec iX11_kernPair_ok 42 rfl) (by decide) rfl (fun c83 => False.elim (absurd c83 (by decide))) (fun c83 => ?_)
          refine go_iconst (v := nI 0) (q := 87) (gDec iX11_kernPair_ok 43 rfl) (by decide) rfl ?_
          exact go_ireturn (gDec iX11_kernPair_ok 44 rfl) rfl rfl rfl (gPut_2x (congrArg (gPut σ 376 5) xc_OAS_S)) (by decide)
        · rw [show fKernPair τ (nI i) (nI j) v = (rI ((gTlP (gRem τ) i j v).1 20 5), (gTlP (gRem τ) i j v)) from (if_pos ⟨h1, h1b⟩).trans ((if_pos h2).trans ((if_neg (by rw [nA_nI (by omega), nA_nI (by omega)]; exact h4)).trans (by rw [nA_nI (by omega), nA_nI (by omega)])))]
          by_cases h5 : τ.1 28 (i * 24 + j) = 301
          · have hn : nA (τ.1 20 5) < 40 := by
              have h9 : τ.1 20 5 < 40 := Classical.not_not.mp (fun h8 => h4 ⟨h8, h5⟩)
              rw [nA_n hC.kw.2.2.2.1.1] at h9
              exact (nI_ltI (a := nA (τ.1 20 5)) (b := 40) (by omega) (by decide)).mp h9
            obtain ⟨m1, m2, m3⟩ := mt_pairNew (i := i) (j := j) (v := v) (gRem_ci hC) (gRem_mr hC hM) (by omega) (by omega) h2 (by rw [eR28]; exact h5) (by rw [eR20]; exact hn)
            rw [eR20] at m2 m3
            rw [m3]
            exact gOK.ch h (okw_pairNew h h1 h1b h2 (gPo_none hM.mp (by omega) (by omega) h5) hM.pn hn) ⟨m1, m2⟩ (fun k hk => ho k (by omega) (by omega)) (by
          have e : gNg (gTlP (gRem τ) i j v) = gNg (gRem τ) := by unfold gNg; rw [ho 2 (by decide) (by decide)]
          rw [e, gRem_ng]
          exact Nat.le_refl _) (fun k hk => by rw [gPut_ne _ _ _ hk, gPut_ne _ _ _ hk, gPut_ne _ _ _ hk, gPut_ne _ _ _ hk]) rfl
          · obtain ⟨k, hk, hk2, -, hk3, hk4⟩ := gPo_some hM.mp (i := i) (j := j) (by omega) (by omega) h5
            obtain ⟨m1, m2, m3⟩ := mt_pairOld (i := i) (j := j) (v := v) (k := k) (gRem_ci hC) (gRem_mr hC hM) (by omega) (by omega) h2 (by rw [eR28]; exact h5) (by rw [eR20]; exact hk) hk3 hk4
            rw [eR20] at m3
            rw [m3]
            exact gOK.ch h (okw_pairOld h h1 h1b h2 hk2 (by omega) hM.pn) ⟨m1, m2⟩ (fun k hk => ho k (by omega) (by omega)) (by
          have e : gNg (gTlP (gRem τ) i j v) = gNg (gRem τ) := by unfold gNg; rw [ho 2 (by decide) (by decide)]
          rw [e, gRem_ng]
          exact Nat.le_refl _) (fun k hk => gPut_ne _ _ _ hk) rfl
      · rw [show fKernPair τ g h0 v = (xIAE, τ) from (if_pos ⟨h1, h1b⟩).trans (if_neg h2)]
        refine gOK.rd h rfl ?_
        refine ct_of (by decide +kernel) rfl (Nat.le_of_ble_eq_true rfl) rfl ?_
        refine go_aload_n (q := 1) (gDec iX11_kernPair_ok 0 rfl) rfl rfl rfl ?_
        refine go_aload_n (q := 2) (gDec iX11_kernPair_ok 1 rfl) rfl rfl rfl ?_
        refine go_iload_n (q := 3) (gDec iX11_kernPair_ok 2 rfl) rfl rfl rfl ?_
        refine go_callV (n2 := 0) (q := 6) kX11_65 (ctX11_isGlyph (τ := τ) hW hM) (gDec iX11_kernPair_ok 3 rfl) rfl rfl (by decide) rfl rfl rfl (Nat.le_of_ble_eq_true rfl) rfl (gFit_rm (by decide) (by decide)) rfl ?_
        refine go_top (v' := 1) (gWi_t (by (try rw [i2l_toInt]); exact h1)) ?_
        refine go_if_eq (t := 17) (q := 9) (gDec iX11_kernPair_ok 4 rfl) (by decide) rfl (fun c6 => False.elim (absurd c6 (by decide))) (fun c6 => ?_)
        refine go_aload_n (q := 10) (gDec iX11_kernPair_ok 5 rfl) rfl rfl rfl ?_
        refine go_iload_n (q := 11) (gDec iX11_kernPair_ok 6 rfl) rfl rfl rfl ?_
        refine go_callV (n2 := 0) (q := 14) kX11_65 (ctX11_isGlyph (τ := τ) hW hM) (gDec iX11_kernPair_ok 7 rfl) rfl rfl (by decide) rfl rfl rfl (Nat.le_of_ble_eq_true rfl) rfl (gFit_rm (by decide) (by decide)) rfl ?_
        refine go_top (v' := 1) (gWi_t (by (try rw [i2l_toInt]); exact h1b)) ?_
        refine go_if_ne (t := 21) (q := 17) (gDec iX11_kernPair_ok 8 rfl) (by decide) rfl (fun c14 => ?_) (fun c14 => False.elim (absurd c14 (by decide)))
        refine go_iload_n (q := 22) (gDec iX11_kernPair_ok 11 rfl) rfl rfl rfl ?_
        refine go_callS (n2 := 0) (q := 25) kX11_156 ctX11_isKern (gDec iX11_kernPair_ok 12 rfl) rfl rfl (Nat.le_of_ble_eq_true rfl) rfl (gFit_rm (by decide) (by decide)) rfl ?_
        refine go_top (v' := 0) (gWi_f (by (try rw [i2l_toInt]); exact h2)) ?_
        refine go_if_ne (t := 32) (q := 28) (gDec iX11_kernPair_ok 13 rfl) (by decide) rfl (fun c25 => False.elim (c25 rfl)) (fun c25 => ?_)
        refine go_iconst (v := nI 2) (q := 29) (gDec iX11_kernPair_ok 14 rfl) (by decide) rfl ?_
        refine go_goto (t := 33) (gDec iX11_kernPair_ok 15 rfl) (by decide) ?_
        refine go_puti (q := 36) fX11_54 gft11 (gDec iX11_kernPair_ok 17 rfl) rfl (by decide) rfl rfl rfl rfl ?_
        refine go_aload_n (q := 37) (gDec iX11_kernPair_ok 18 rfl) rfl rfl rfl ?_
        refine go_iload_n (q := 38) (gDec iX11_kernPair_ok 19 rfl) rfl rfl rfl ?_
        refine go_iload_n (q := 39) (gDec iX11_kernPair_ok 20 rfl) rfl rfl rfl ?_
        refine go_callV (n2 := 0) (q := 42) kX11_163 (ctX11_pairOf (τ := τ) (gMRt hM)) (gDec iX11_kernPair_ok 21 rfl) rfl rfl (by decide) rfl rfl rfl (Nat.le_of_ble_eq_true rfl) rfl (gFit_rm (by decide) (by decide)) rfl ?_
        refine go_istore (q := 44) (gDec iX11_kernPair_ok 22 rfl) (by decide) rfl ?_
        refine go_aload_n (q := 45) (gDec iX11_kernPair_ok 23 rfl) rfl rfl rfl ?_
        refine go_aload_n (q := 46) (gDec iX11_kernPair_ok 24 rfl) rfl rfl rfl ?_
        refine go_geti (q := 49) fX11_54 (gDec iX11_kernPair_ok 25 rfl) rfl (by decide) rfl ?_
        refine go_top (v' := nI 2) rfl ?_
        refine go_if_ne (t := 72) (q := 52) (gDec iX11_kernPair_ok 26 rfl) (by decide) rfl (fun c49 => ?_) (fun c49 => False.elim (absurd c49 (by decide)))
        refine go_aload_n (q := 73) (gDec iX11_kernPair_ok 37 rfl) rfl rfl rfl ?_
        refine go_geti (q := 76) fX11_54 (gDec iX11_kernPair_ok 38 rfl) rfl (by decide) rfl ?_
        refine go_top (v' := nI 2) rfl ?_
        refine go_puti (q := 79) fX11_54 gft11 (gDec iX11_kernPair_ok 39 rfl) rfl (by decide) rfl rfl rfl rfl ?_
        refine go_aload_n (q := 80) (gDec iX11_kernPair_ok 40 rfl) rfl rfl rfl ?_
        refine go_geti (q := 83) fX11_54 (gDec iX11_kernPair_ok 41 rfl) rfl (by decide) rfl ?_
        refine go_top (v' := nI 2) rfl ?_
        refine go_if_le (t := 88) (q := 86) (gDec iX11_kernPair_ok 42 rfl) (by decide) rfl (fun c83 => False.elim (absurd c83 (by decide))) (fun c83 => ?_)
        refine go_iconst (v := nI 0) (q := 87) (gDec iX11_kernPair_ok 43 rfl) (by decide) rfl ?_
        exact go_ireturn (gDec iX11_kernPair_ok 44 rfl) rfl rfl rfl (gPut_2x (congrArg (gPut σ 376 5) xc_OAS_A)) (by decide)
    · rw [show fKernPair τ g h0 v = (xIOB, τ) from if_neg (fun h9 => h1b h9.2)]
      refine gOK.rd h rfl ?_
      refine ct_of (by decide +kernel) rfl (Nat.le_of_ble_eq_true rfl) rfl ?_
      refine go_aload_n (q := 1) (gDec iX11_kernPair_ok 0 rfl) rfl rfl rfl ?_
      refine go_aload_n (q := 2) (gDec iX11_kernPair_ok 1 rfl) rfl rfl rfl ?_
      refine go_iload_n (q := 3) (gDec iX11_kernPair_ok 2 rfl) rfl rfl rfl ?_
      refine go_callV (n2 := 0) (q := 6) kX11_65 (ctX11_isGlyph (τ := τ) hW hM) (gDec iX11_kernPair_ok 3 rfl) rfl rfl (by decide) rfl rfl rfl (Nat.le_of_ble_eq_true rfl) rfl (gFit_rm (by decide) (by decide)) rfl ?_
      refine go_top (v' := 1) (gWi_t (by (try rw [i2l_toInt]); exact h1)) ?_
      refine go_if_eq (t := 17) (q := 9) (gDec iX11_kernPair_ok 4 rfl) (by decide) rfl (fun c6 => False.elim (absurd c6 (by decide))) (fun c6 => ?_)
      refine go_aload_n (q := 10) (gDec iX11_kernPair_ok 5 rfl) rfl rfl rfl ?_
      refine go_iload_n (q := 11) (gDec iX11_kernPair_ok 6 rfl) rfl rfl rfl ?_
      refine go_callV (n2 := 0) (q := 14) kX11_65 (ctX11_isGlyph (τ := τ) hW hM) (gDec iX11_kernPair_ok 7 rfl) rfl rfl (by decide) rfl rfl rfl (Nat.le_of_ble_eq_true rfl) rfl (gFit_rm (by decide) (by decide)) rfl ?_
      refine go_top (v' := 0) (gWi_f (by (try rw [i2l_toInt]); exact h1b)) ?_
      refine go_if_ne (t := 21) (q := 17) (gDec iX11_kernPair_ok 8 rfl) (by decide) rfl (fun c14 => False.elim (c14 rfl)) (fun c14 => ?_)
      refine go_iconst (v := nI 1) (q := 18) (gDec iX11_kernPair_ok 9 rfl) (by decide) rfl ?_
      refine go_goto (t := 33) (gDec iX11_kernPair_ok 10 rfl) (by decide) ?_
      refine go_puti (q := 36) fX11_54 gft11 (gDec iX11_kernPair_ok 17 rfl) rfl (by decide) rfl rfl rfl rfl ?_
      refine go_aload_n (q := 37) (gDec iX11_kernPair_ok 18 rfl) rfl rfl rfl ?_
      refine go_iload_n (q := 38) (gDec iX11_kernPair_ok 19 rfl) rfl rfl rfl ?_
      refine go_iload_n (q := 39) (gDec iX11_kernPair_ok 20 rfl) rfl rfl rfl ?_
      refine go_callV (n2 := 0) (q := 42) kX11_163 (ctX11_pairOf (τ := τ) (gMRt hM)) (gDec iX11_kernPair_ok 21 rfl) rfl rfl (by decide) rfl rfl rfl (Nat.le_of_ble_eq_true rfl) rfl (gFit_rm (by decide) (by decide)) rfl ?_
      refine go_istore (q := 44) (gDec iX11_kernPair_ok 22 rfl) (by decide) rfl ?_
      refine go_aload_n (q := 45) (gDec iX11_kernPair_ok 23 rfl) rfl rfl rfl ?_
      refine go_aload_n (q := 46) (gDec iX11_kernPair_ok 24 rfl) rfl rfl rfl ?_
      refine go_geti (q := 49) fX11_54 (gDec iX11_kernPair_ok 25 rfl) rfl (by decide) rfl ?_
      refine go_top (v' := nI 1) rfl ?_
      refine go_if_ne (t := 72) (q := 52) (gDec iX11_kernPair_ok 26 rfl) (by decide) rfl (fun c49 => ?_) (fun c49 => False.elim (absurd c49 (by decide)))
      refine go_aload_n (q := 73) (gDec iX11_kernPair_ok 37 rfl) rfl rfl rfl ?_
      refine go_geti (q := 76) fX11_54 (gDec iX11_kernPair_ok 38 rfl) rfl (by decide) rfl ?_
      refine go_top (v' := nI 1) rfl ?_
      refine go_puti (q := 79) fX11_54 gft11 (gDec iX11_kernPair_ok 39 rfl) rfl (by decide) rfl rfl rfl rfl ?_
      refine go_aload_n (q := 80) (gDec iX11_kernPair_ok 40 rfl) rfl rfl rfl ?_
      refine go_geti (q := 83) fX11_54 (gDec iX11_kernPair_ok 41 rfl) rfl (by decide) rfl ?_
      refine go_top (v' := nI 1) rfl ?_
      refine go_if_le (t := 88) (q := 86) (gDec iX11_kernPair_ok 42 rfl) (by decide) rfl (fun c83 => False.elim (absurd c83 (by decide))) (fun c83 => ?_)
      refine go_iconst (v := nI 0) (q := 87) (gDec iX11_kernPair_ok 43 rfl) (by decide) rfl ?_
      exact go_ireturn (gDec iX11_kernPair_ok 44 rfl) rfl rfl rfl (gPut_2x (congrArg (gPut σ 376 5) xc_OAS_O)) (by decide)
  · rw [show fKernPair τ g h0 v = (xIOB, τ) from if_neg (fun h9 => h1 h9.1)]
    refine gOK.rd h rfl ?_
    refine ct_of (by decide +kernel) rfl (Nat.le_of_ble_eq_true rfl) rfl ?_
    refine go_aload_n (q := 1) (gDec iX11_kernPair_ok 0 rfl) rfl rfl rfl ?_
    refine go_aload_n (q := 2) (gDec iX11_kernPair_ok 1 rfl) rfl rfl rfl ?_
    refine go_iload_n (q := 3) (gDec iX11_kernPair_ok 2 rfl) rfl rfl rfl ?_
    refine go_callV (n2 := 0) (q := 6) kX11_65 (ctX11_isGlyph (τ := τ) hW hM) (gDec iX11_kernPair_ok 3 rfl) rfl rfl (by decide) rfl rfl rfl (Nat.le_of_ble_eq_true rfl) rfl (gFit_rm (by decide) (by decide)) rfl ?_
    refine go_top (v' := 0) (gWi_f (by (try rw [i2l_toInt]); exact h1)) ?_
    refine go_if_eq (t := 17) (q := 9) (gDec iX11_kernPair_ok 4 rfl) (by decide) rfl (fun c6 => ?_) (fun c6 => False.elim (c6 rfl))
    refine go_iconst (v := nI 1) (q := 18) (gDec iX11_kernPair_ok 9 rfl) (by decide) rfl ?_
    refine go_goto (t := 33) (gDec iX11_kernPair_ok 10 rfl) (by decide) ?_
    refine go_puti (q := 36) fX11_54 gft11 (gDec iX11_kernPair_ok 17 rfl) rfl (by decide) rfl rfl rfl rfl ?_
    refine go_aload_n (q := 37) (gDec iX11_kernPair_ok 18 rfl) rfl rfl rfl ?_
    refine go_iload_n (q := 38) (gDec iX11_kernPair_ok 19 rfl) rfl rfl rfl ?_
    refine go_iload_n (q := 39) (gDec iX11_kernPair_ok 20 rfl) rfl rfl rfl ?_
    refine go_callV (n2 := 0) (q := 42) kX11_163 (ctX11_pairOf (τ := τ) (gMRt hM)) (gDec iX11_kernPair_ok 21 rfl) rfl rfl (by decide) rfl rfl rfl (Nat.le_of_ble_eq_true rfl) rfl (gFit_rm (by decide) (by decide)) rfl ?_
    refine go_istore (q := 44) (gDec iX11_kernPair_ok 22 rfl) (by decide) rfl ?_
    refine go_aload_n (q := 45) (gDec iX11_kernPair_ok 23 rfl) rfl rfl rfl ?_
    refine go_aload_n (q := 46) (gDec iX11_kernPair_ok 24 rfl) rfl rfl rfl ?_
    refine go_geti (q := 49) fX11_54 (gDec iX11_kernPair_ok 25 rfl) rfl (by decide) rfl ?_
    refine go_top (v' := nI 1) rfl ?_
    refine go_if_ne (t := 72) (q := 52) (gDec iX11_kernPair_ok 26 rfl) (by decide) rfl (fun c49 => ?_) (fun c49 => False.elim (absurd c49 (by decide)))
    refine go_aload_n (q := 73) (gDec iX11_kernPair_ok 37 rfl) rfl rfl rfl ?_
    refine go_geti (q := 76) fX11_54 (gDec iX11_kernPair_ok 38 rfl) rfl (by decide) rfl ?_
    refine go_top (v' := nI 1) rfl ?_
    refine go_puti (q := 79) fX11_54 gft11 (gDec iX11_kernPair_ok 39 rfl) rfl (by decide) rfl rfl rfl rfl ?_
    refine go_aload_n (q := 80) (gDec iX11_kernPair_ok 40 rfl) rfl rfl rfl ?_
    refine go_geti (q := 83) fX11_54 (gDec iX11_kernPair_ok 41 rfl) rfl (by decide) rfl ?_
    refine go_top (v' := nI 1) rfl ?_
    refine go_if_le (t := 88) (q := 86) (gDec iX11_kernPair_ok 42 rfl) (by decide) rfl (fun c83 => False.elim (absurd c83 (by decide))) (fun c83 => ?_)
    refine go_iconst (v := nI 0) (q := 87) (gDec iX11_kernPair_ok 43 rfl) (by decide) rfl ?_
    exact go_ireturn (gDec iX11_kernPair_ok 44 rfl) rfl rfl rfl (gPut_2x (congrArg (gPut σ 376 5) xc_OAS_O)) (by decide)

theorem mt_dropC {ρ : gST} {s : Nat → Int32} {i j : Nat} (hC : gCI ρ) (hM : gMR ρ s) (hi : i < 6) (hj : j < 6) (h0 : ¬ ρ.1 26 (i * 6 + j) = 301) : gCI (gDpC ρ i j) ∧ gMR (gDpC ρ i j) (upd s (4 + 6 * i + j) 0) := by
  obtain ⟨τ', hτ⟩ : ∃ τ', τ' = gDpC ρ i j := ⟨_, rfl⟩
  have ho : ∀ k, k ≠ 20 → k ≠ 26 → τ'.1 k = ρ.1 k := fun k q1 q2 => by rw [hτ]; unfold gDpC; rw [gPut_ne _ _ _ q1, gPut_ne _ _ _ q2]
  have e26 : ∀ a, τ'.1 26 a = if a = (i * 6 + j) then 301 else ρ.1 26 a := fun a => by rw [hτ]; unfold gDpC; rw [gPut_ne _ _ _ (by decide), gPut_s, uN]
  have e205 : τ'.1 20 5 = ρ.1 20 5 := by rw [hτ]; unfold gDpC; rw [gPut_at, if_neg (by omega), gPut_ne _ _ _ (by decide)]
  have e204 : τ'.1 20 4 = ρ.1 20 4 - 1 := by rw [hτ]; unfold gDpC; rw [gPut_at, if_pos ⟨rfl, rfl⟩]
  rw [← hτ]
  have hK := hC.kw
  refine ⟨hC.hdr (fun k _ _ q2 q3 _ => ho k q2 q3) ⟨fun k hk => ?_, ?_, ?_, ?_, ?_⟩, hM.hdr hC.dw (fun k _ _ q2 q3 _ => ho k q2 q3) (fun x hx => by rw [uN, if_neg (by omega)]) (by rw [uN, if_neg (by omega)]) ⟨?_, ?_, ?_⟩ (fun k hk => ?_) ?_⟩
  · rw [e26]
    split
    · exact Or.inl rfl
    · exact hK.1 k hk
  · rw [ho 28 (by decide) (by decide)]; exact hK.2.1
  · rw [e204, hK.2.2.1]
    show sM (cK (ρ.1 26)) 0 36 - 1 = sM (cK (τ'.1 26)) 0 36
    rw [sM_upd (f := cK (ρ.1 26)) (g := cK (τ'.1 26)) (k0 := (i * 6 + j)) 36 0 (fun k _ _ q => by unfold cK; rw [e26, if_neg q]) (by omega) (by omega)]
    rw [show cK (τ'.1 26) (i * 6 + j) = 0 from by unfold cK; rw [e26, if_pos rfl, if_pos rfl], show cK (ρ.1 26) (i * 6 + j) = 1 from if_neg h0]
    grind
  · rw [e205]; exact hK.2.2.2.1
  · rw [ho 1 (by decide) (by decide)]; exact hK.2.2.2.2
  · rw [uN, if_neg (by omega), ho 1 (by decide) (by decide)]; exact hM.1.2.1
  · rw [uN, if_neg (by omega), ho 1 (by decide) (by decide)]; exact hM.1.2.2.1
  · rw [uN, if_neg (by omega), e205]; exact hM.pn
  · rw [e26]
    have h2 : upd s (4 + 6 * i + j) 0 (40 + k) = s (40 + k) := by rw [uN, if_neg (by omega)]
    rw [h2]
    by_cases hk0 : k = (i * 6 + j)
    · rw [if_pos hk0, if_pos rfl, uN, if_pos (by omega)]
      exact ⟨rfl, fun h9 => absurd rfl h9⟩
    · rw [if_neg hk0, uN, if_neg (by omega)]
      exact hM.2.1 k hk
  · exact hM.mp.c e205 (ho 28 (by decide) (by decide)) (fun x q1 q2 => by rw [uN, if_neg (by omega)])
theorem mt_dropP {ρ : gST} {s : Nat → Int32} {i j k n : Nat} (hC : gCI ρ) (hM : gMR ρ s) (hi : i < 24) (hj : j < 24) (h0 : ¬ ρ.1 28 (i * 24 + j) = 301) (hn : nA (ρ.1 20 5) = n + 1) (hk : k < n + 1) (hs1 : s (76 + 3 * k) = nI i) (hs2 : s (76 + 3 * k + 1) = nI j) :
    gCI (gDpP ρ i j) ∧ gMR (gDpP ρ i j) (va_cpy (upd s 3 (nI n)) (upd s 3 (nI n)) (76 + 3 * n) (76 + 3 * k) 3) := by
  obtain ⟨τ', hτ⟩ : ∃ τ', τ' = gDpP ρ i j := ⟨_, rfl⟩
  have hK := hC.kw
  have h40 := hM.mp.n40
  have hr := nA_n hK.2.2.2.1.1
  rw [hn] at hr h40
  have ho : ∀ k, k ≠ 20 → k ≠ 28 → τ'.1 k = ρ.1 k := fun k q1 q2 => by rw [hτ]; unfold gDpP; rw [gPut_ne _ _ _ q1, gPut_ne _ _ _ q2]
  have e28 : ∀ a, τ'.1 28 a = if a = (i * 24 + j) then 301 else ρ.1 28 a := fun a => by rw [hτ]; unfold gDpP; rw [gPut_ne _ _ _ (by decide), gPut_s, uN]
  have e204 : τ'.1 20 4 = ρ.1 20 4 := by rw [hτ]; unfold gDpP; rw [gPut_at, if_neg (by omega), gPut_ne _ _ _ (by decide)]
  have e205 : τ'.1 20 5 = nI n := by rw [hτ]; unfold gDpP; rw [gPut_at, if_pos ⟨rfl, rfl⟩, hr, nI_pred]
  have en : nA (τ'.1 20 5) = n := by rw [e205]; exact nA_nI (by omega)
  rw [← hτ]
  obtain ⟨pr, c0, c1, c2, c3⟩ := hM.mp
  rw [hn] at c0 c1 c2 c3
  have hpk : pr k = (i * 24 + j) := by
    obtain ⟨d1, d2, d3, d4, d5⟩ := c1 k hk
    rw [d2] at hs1
    rw [d3] at hs2
    have q1 := (nI_eq (by omega) (by omega)).mp hs1
    have q2 := (nI_eq (by omega) (by omega)).mp hs2
    omega
  obtain ⟨s', hs'⟩ : ∃ s', s' = va_cpy (upd s 3 (nI n)) (upd s 3 (nI n)) (76 + 3 * n) (76 + 3 * k) 3 := ⟨_, rfl⟩
  have u : ∀ x, ¬ (76 + 3 * k ≤ x ∧ x < 76 + 3 * k + 3) → x ≠ 3 → s' x = s x := fun x q1 q2 => by rw [hs']; unfold va_cpy; rw [if_neg q1, uN, if_neg q2]
  have uk : ∀ d, d < 3 → s' (76 + 3 * k + d) = s (76 + 3 * n + d) := fun d hd => by
    rw [hs']
    unfold va_cpy
    rw [if_pos (by omega), uN, if_neg (by omega), show 76 + 3 * n + (76 + 3 * k + d - (76 + 3 * k)) = 76 + 3 * n + d by omega]
  rw [← hs']
  refine ⟨hC.hdr (fun k _ _ q2 _ q4 => ho k q2 q4) ⟨?_, fun k hk => ?_, ?_, ?_, ?_⟩, hM.hdr hC.dw (fun k _ _ q2 _ q4 => ho k q2 q4) (fun x hx => u x (by omega) (by omega)) (u 0 (by omega) (by decide)) ⟨?_, ?_, ?_⟩ (fun k hk => ?_) ⟨fun l => if l = k then pr n else pr l, ?_, ?_, ?_, ?_⟩⟩
  · rw [ho 26 (by decide) (by decide)]; exact hK.1
  · rw [e28]
    split
    · exact Or.inl rfl
    · exact hK.2.1 k hk
  · rw [e204, ho 26 (by decide) (by decide)]; exact hK.2.2.1
  · rw [e205, nI_toInt (by omega)]; omega
  · rw [ho 1 (by decide) (by decide)]; exact hK.2.2.2.2
  · rw [u 1 (by omega) (by decide), ho 1 (by decide) (by decide)]; exact hM.1.2.1
  · rw [u 2 (by omega) (by decide), ho 1 (by decide) (by decide)]; exact hM.1.2.2.1
  · rw [en, hs']; unfold va_cpy; rw [if_neg (by omega), uN, if_pos rfl]
  · rw [u _ (by omega) (by omega), u _ (by omega) (by omega), ho 26 (by decide) (by decide)]; exact hM.2.1 k hk
  · rw [en]; omega
  · rw [en]
    intro l hl
    by_cases hlk : l = k
    · subst hlk
      simp only [if_true]
      obtain ⟨d1, d2, d3, d4, d5⟩ := c1 n (by omega)
      have hne : ¬ pr n = (i * 24 + j) := fun h9 => by have := c3 n l (by omega) hk (h9.trans hpk.symm); omega
      have u0 := uk 0 (by decide)
      rw [uk 1 (by decide), uk 2 (by decide), e28, if_neg hne, show s' (76 + 3 * l) = s (76 + 3 * n) from u0]
      exact ⟨d1, d2, d3, d4, d5⟩
    · simp only [hlk, if_false]
      obtain ⟨d1, d2, d3, d4, d5⟩ := c1 l (by omega)
      have hne : ¬ pr l = (i * 24 + j) := fun h9 => hlk (c3 l k (by omega) hk (h9.trans hpk.symm))
      rw [u _ (by omega) (by omega), u _ (by omega) (by omega), u _ (by omega) (by omega), e28, if_neg hne]
      exact ⟨d1, d2, d3, d4, d5⟩
  · rw [en]
    intro x hx hxn
    rw [e28] at hxn
    by_cases hx0 : x = (i * 24 + j)
    · rw [if_pos hx0] at hxn; exact absurd rfl hxn
    · rw [if_neg hx0] at hxn
      obtain ⟨l, hl, hle⟩ := c2 x hx hxn
      by_cases hln : l = n
      · have hkn : k < n := by
          rcases Nat.lt_or_ge k n with q | q
          · exact q
          · exfalso
            have : k = n := by omega
            rw [← hle, hln, ← this, hpk] at hx0
            exact hx0 rfl
        exact ⟨k, hkn, (if_pos rfl).trans (by rw [← hln]; exact hle)⟩
      · have hlk : l ≠ k := fun h9 => hx0 (by rw [← hle, h9, hpk])
        exact ⟨l, by omega, (if_neg hlk).trans hle⟩
  · rw [en]
    intro a b ha hb hab
    dsimp only at hab
    by_cases hak : a = k
    · by_cases hbk : b = k
      · omega
      · rw [if_pos hak, if_neg hbk] at hab
        have := c3 n b (by omega) (by omega) hab
        omega
    · by_cases hbk : b = k
      · rw [if_neg hak, if_pos hbk] at hab
        have := c3 a n (by omega) (by omega) hab
        omega
      · rw [if_neg hak, if_neg hbk] at hab
        exact c3 a b (by omega) (by omega) hab

set_option maxHeartbeats 4000000 in
set_option maxRecDepth 100000 in
theorem okw_dropC {κ : gK} {σ τ : gST} {i j : Nat} (h : gAll τ σ) (hi : i < 6) (hj : j < 6) (h0 : ¬ τ.1 26 (i * 6 + j) = 301) : gCt κ mX11_dropKern 9 [.ref (κ.2.1 + 376), .int 0, .int (nI i), .int (nI j)] σ (rI (τ.1 26 (i * 6 + j))) (gPut (gChg (gPut σ 376 5 0) (nA (τ.1 71 2))) 377 (4 + 6 * i + j) 0) 0 := by
  have hM := h.mr
  refine ct_of (by decide +kernel) rfl (Nat.le_of_ble_eq_true rfl) rfl ?_
  refine go_iload_n (q := 1) (gDec iX11_dropKern_ok 0 rfl) rfl rfl rfl ?_
  refine go_if_eq (t := 13) (q := 4) (gDec iX11_dropKern_ok 1 rfl) (by decide) rfl (fun c1 => ?_) (fun c1 => False.elim (c1 rfl))
  refine go_iconst (v := (-1)) (q := 14) (gDec iX11_dropKern_ok 7 rfl) (by decide) rfl ?_
  refine go_istore (q := 16) (gDec iX11_dropKern_ok 8 rfl) (by decide) rfl ?_
  refine go_aload_n (q := 17) (gDec iX11_dropKern_ok 9 rfl) rfl rfl rfl ?_
  refine go_iload_n (q := 18) (gDec iX11_dropKern_ok 10 rfl) rfl rfl rfl ?_
  refine go_if_eq (t := 26) (q := 21) (gDec iX11_dropKern_ok 11 rfl) (by decide) rfl (fun c18 => ?_) (fun c18 => False.elim (c18 rfl))
  refine go_iload_n (q := 27) (gDec iX11_dropKern_ok 14 rfl) rfl rfl rfl ?_
  refine go_if_ne (t := 43) (q := 30) (gDec iX11_dropKern_ok 15 rfl) (by decide) rfl (fun c27 => False.elim (c27 rfl)) (fun c27 => ?_)
  refine go_aload_n (q := 31) (gDec iX11_dropKern_ok 16 rfl) rfl rfl rfl ?_
  refine go_iload_n (q := 32) (gDec iX11_dropKern_ok 17 rfl) rfl rfl rfl ?_
  refine go_iload_n (q := 33) (gDec iX11_dropKern_ok 18 rfl) rfl rfl rfl ?_
  refine go_callV (n2 := 0) (q := 36) kX11_166 (ctX11_isToldFor (τ := τ) (a := i) (b := j) hM hi hj) (gDec iX11_dropKern_ok 19 rfl) rfl rfl (by decide) rfl rfl rfl (Nat.le_of_ble_eq_true rfl) rfl (gFit_rm (by decide) (by decide)) rfl ?_
  refine go_top (v' := 1) (if_neg h0) ?_
  refine go_if_ne (t := 43) (q := 39) (gDec iX11_dropKern_ok 20 rfl) (by decide) rfl (fun c36 => ?_) (fun c36 => False.elim (absurd c36 (by decide)))
  refine go_iconst (v := nI 0) (q := 44) (gDec iX11_dropKern_ok 23 rfl) (by decide) rfl ?_
  refine go_puti (q := 47) fX11_54 gft11 (gDec iX11_dropKern_ok 24 rfl) rfl (by decide) rfl rfl rfl rfl ?_
  refine go_aload_n (q := 48) (gDec iX11_dropKern_ok 25 rfl) rfl rfl rfl ?_
  refine go_geti (q := 51) fX11_54 (gDec iX11_dropKern_ok 26 rfl) rfl (by decide) rfl ?_
  refine go_top (v' := nI 0) rfl ?_
  refine go_if_le (t := 56) (q := 54) (gDec iX11_dropKern_ok 27 rfl) (by decide) rfl (fun c51 => ?_) (fun c51 => False.elim (c51 (by decide)))
  refine go_aload_n (q := 57) (gDec iX11_dropKern_ok 30 rfl) rfl rfl rfl ?_
  refine go_callV (n2 := 0) (q := 60) kX11_89 (ctX11_change (n := (nA (τ.1 71 2))) h.hr.1 h.n8) (gDec iX11_dropKern_ok 31 rfl) rfl rfl (by decide) rfl rfl rfl (Nat.le_of_ble_eq_true rfl) rfl (gFit_rm (by decide) (by decide)) rfl ?_
  refine go_w (show _ = gChg (gPut σ 376 5 0) (nA (τ.1 71 2)) from rfl) ?_
  refine go_iload_n (q := 61) (gDec iX11_dropKern_ok 32 rfl) rfl rfl rfl ?_
  refine go_if_ne (t := 93) (q := 64) (gDec iX11_dropKern_ok 33 rfl) (by decide) rfl (fun c61 => False.elim (c61 rfl)) (fun c61 => ?_)
  refine go_aload_n (q := 65) (gDec iX11_dropKern_ok 34 rfl) rfl rfl rfl ?_
  refine go_getr (r' := 377) (q := 68) fX11_9 (gDec iX11_dropKern_ok 35 rfl) rfl (by decide) rfl ?_
  refine go_iconst (v := nI 4) (q := 69) (gDec iX11_dropKern_ok 36 rfl) (by decide) rfl ?_
  refine go_bipush (v := nI 6) (q := 71) (gDec iX11_dropKern_ok 37 rfl) (by decide) rfl ?_
  refine go_iload_n (q := 72) (gDec iX11_dropKern_ok 38 rfl) rfl rfl rfl ?_
  refine go_imulN (c := 6 * i) (q := 73) (gDec iX11_dropKern_ok 39 rfl) rfl rfl ?_
  refine go_iaddN (c := 4 + (6 * i)) (q := 74) (gDec iX11_dropKern_ok 40 rfl) rfl rfl ?_
  refine go_iload_n (q := 75) (gDec iX11_dropKern_ok 41 rfl) rfl rfl rfl ?_
  refine go_iaddN (c := 4 + (6 * i) + j) (q := 76) (gDec iX11_dropKern_ok 42 rfl) rfl rfl ?_
  refine go_iconst (v := 0) (q := 77) (gDec iX11_dropKern_ok 43 rfl) (by decide) rfl ?_
  refine go_iastN (q := 78) (gDec iX11_dropKern_ok 44 rfl) rfl (by decide) (by omega) (by decide) rfl ?_
  refine go_aload_n (q := 79) (gDec iX11_dropKern_ok 45 rfl) rfl rfl rfl ?_
  refine go_getr (r' := 377) (q := 82) fX11_9 (gDec iX11_dropKern_ok 46 rfl) rfl (by decide) rfl ?_
  refine go_bipush (v := nI 40) (q := 84) (gDec iX11_dropKern_ok 47 rfl) (by decide) rfl ?_
  refine go_bipush (v := nI 6) (q := 86) (gDec iX11_dropKern_ok 48 rfl) (by decide) rfl ?_
  refine go_iload_n (q := 87) (gDec iX11_dropKern_ok 49 rfl) rfl rfl rfl ?_
  refine go_imulN (c := 6 * i) (q := 88) (gDec iX11_dropKern_ok 50 rfl) rfl rfl ?_
  refine go_iaddN (c := 40 + (6 * i)) (q := 89) (gDec iX11_dropKern_ok 51 rfl) rfl rfl ?_
  refine go_iload_n (q := 90) (gDec iX11_dropKern_ok 52 rfl) rfl rfl rfl ?_
  refine go_iaddN (c := 40 + (6 * i) + j) (q := 91) (gDec iX11_dropKern_ok 53 rfl) rfl rfl ?_
  refine go_ialdN (q := 92) (gDec iX11_dropKern_ok 54 rfl) rfl (by decide) (by omega) (by decide) rfl ?_
  refine go_top (v' := τ.1 26 (i * 6 + j)) (by rw [gPut_at, if_neg (by omega)]; exact hM.ck hi hj h0 rfl) ?_
  exact go_ireturn (gDec iX11_dropKern_ok 55 rfl) rfl rfl rfl rfl (by decide)
set_option maxHeartbeats 4000000 in
set_option maxRecDepth 100000 in
theorem okw_dropP {κ : gK} {σ τ : gST} {i j k n : Nat} {w : Int32} (h : gAll τ σ) (hw : ¬ w = 0) (hp : (gPo (σ.1 377) (nI i) (nI j) 0 (nA (τ.1 20 5))) = nI k) (hk : k < n + 1) (hn40 : n < 40) (hn3 : σ.1 377 3 = nI (n + 1)) (hv : σ.1 377 (76 + 3 * k + 2) = τ.1 28 (i * 24 + j)) : gCt κ mX11_dropKern 9 [.ref (κ.2.1 + 376), .int w, .int (nI i), .int (nI j)] σ (rI (τ.1 28 (i * 24 + j))) (gSA (gPut (gChg (gPut σ 376 5 0) (nA (τ.1 71 2))) 377 3 (nI n)).1 377 (va_cpy (upd (σ.1 377) 3 (nI n)) (upd (σ.1 377) 3 (nI n)) (76 + 3 * n) (76 + 3 * k) 3), (gPut (gChg (gPut σ 376 5 0) (nA (τ.1 71 2))) 377 3 (nI n)).2) 0 := by
  have hM := h.mr
  refine ct_of (by decide +kernel) rfl (Nat.le_of_ble_eq_true rfl) rfl ?_
  refine go_iload_n (q := 1) (gDec iX11_dropKern_ok 0 rfl) rfl rfl rfl ?_
  refine go_if_eq (t := 13) (q := 4) (gDec iX11_dropKern_ok 1 rfl) (by decide) rfl (fun c1 => False.elim (hw c1)) (fun c1 => ?_)
  refine go_aload_n (q := 5) (gDec iX11_dropKern_ok 2 rfl) rfl rfl rfl ?_
  refine go_iload_n (q := 6) (gDec iX11_dropKern_ok 3 rfl) rfl rfl rfl ?_
  refine go_iload_n (q := 7) (gDec iX11_dropKern_ok 4 rfl) rfl rfl rfl ?_
  refine go_callV (n2 := 0) (q := 10) kX11_163 (ctX11_pairOf (τ := τ) hM) (gDec iX11_dropKern_ok 5 rfl) rfl rfl (by decide) rfl rfl rfl (Nat.le_of_ble_eq_true rfl) rfl (gFit_rm (by decide) (by decide)) rfl ?_
  refine go_top (v' := nI k) (hp) ?_
  refine go_goto (t := 14) (gDec iX11_dropKern_ok 6 rfl) (by decide) ?_
  refine go_istore (q := 16) (gDec iX11_dropKern_ok 8 rfl) (by decide) rfl ?_
  refine go_aload_n (q := 17) (gDec iX11_dropKern_ok 9 rfl) rfl rfl rfl ?_
  refine go_iload_n (q := 18) (gDec iX11_dropKern_ok 10 rfl) rfl rfl rfl ?_
  refine go_if_eq (t := 26) (q := 21) (gDec iX11_dropKern_ok 11 rfl) (by decide) rfl (fun c18 => False.elim (hw c18)) (fun c18 => ?_)
  refine go_iload (q := 23) (gDec iX11_dropKern_ok 12 rfl) rfl rfl ?_
  refine go_if_lt (t := 39) (q := 26) (gDec iX11_dropKern_ok 13 rfl) (by decide) rfl (fun c23 => False.elim (nI_pos (by omega) c23)) (fun c23 => ?_)
  refine go_iload_n (q := 27) (gDec iX11_dropKern_ok 14 rfl) rfl rfl rfl ?_
  refine go_if_ne (t := 43) (q := 30) (gDec iX11_dropKern_ok 15 rfl) (by decide) rfl (fun c27 => ?_) (fun c27 => False.elim (hw c27))
  refine go_iconst (v := nI 0) (q := 44) (gDec iX11_dropKern_ok 23 rfl) (by decide) rfl ?_
  refine go_puti (q := 47) fX11_54 gft11 (gDec iX11_dropKern_ok 24 rfl) rfl (by decide) rfl rfl rfl rfl ?_
  refine go_aload_n (q := 48) (gDec iX11_dropKern_ok 25 rfl) rfl rfl rfl ?_
  refine go_geti (q := 51) fX11_54 (gDec iX11_dropKern_ok 26 rfl) rfl (by decide) rfl ?_
  refine go_top (v' := nI 0) rfl ?_
  refine go_if_le (t := 56) (q := 54) (gDec iX11_dropKern_ok 27 rfl) (by decide) rfl (fun c51 => ?_) (fun c51 => False.elim (c51 (by decide)))
  refine go_aload_n (q := 57) (gDec iX11_dropKern_ok 30 rfl) rfl rfl rfl ?_
  refine go_callV (n2 := 0) (q := 60) kX11_89 (ctX11_change (n := (nA (τ.1 71 2))) h.hr.1 h.n8) (gDec iX11_dropKern_ok 31 rfl) rfl rfl (by decide) rfl rfl rfl (Nat.le_of_ble_eq_true rfl) rfl (gFit_rm (by decide) (by decide)) rfl ?_
  refine go_w (show _ = gChg (gPut σ 376 5 0) (nA (τ.1 71 2)) from rfl) ?_
  refine go_iload_n (q := 61) (gDec iX11_dropKern_ok 32 rfl) rfl rfl rfl ?_
  refine go_if_ne (t := 93) (q := 64) (gDec iX11_dropKern_ok 33 rfl) (by decide) rfl (fun c61 => ?_) (fun c61 => False.elim (hw c61))
  refine go_aload_n (q := 94) (gDec iX11_dropKern_ok 56 rfl) rfl rfl rfl ?_
  refine go_getr (r' := 377) (q := 97) fX11_9 (gDec iX11_dropKern_ok 57 rfl) rfl (by decide) rfl ?_
  refine go_bipush (v := nI 76) (q := 99) (gDec iX11_dropKern_ok 58 rfl) (by decide) rfl ?_
  refine go_iconst (v := nI 3) (q := 100) (gDec iX11_dropKern_ok 59 rfl) (by decide) rfl ?_
  refine go_iload (q := 102) (gDec iX11_dropKern_ok 60 rfl) rfl rfl ?_
  refine go_imulN (c := 3 * k) (q := 103) (gDec iX11_dropKern_ok 61 rfl) rfl rfl ?_
  refine go_iaddN (c := 76 + (3 * k)) (q := 104) (gDec iX11_dropKern_ok 62 rfl) rfl rfl ?_
  refine go_iconst (v := nI 2) (q := 105) (gDec iX11_dropKern_ok 63 rfl) (by decide) rfl ?_
  refine go_iaddN (c := 76 + (3 * k) + 2) (q := 106) (gDec iX11_dropKern_ok 64 rfl) rfl rfl ?_
  refine go_ialdN (q := 107) (gDec iX11_dropKern_ok 65 rfl) rfl (by decide) (by omega) (by decide) rfl ?_
  refine go_top (v' := τ.1 28 (i * 24 + j)) (hv) ?_
  refine go_istore (q := 109) (gDec iX11_dropKern_ok 66 rfl) (by decide) rfl ?_
  refine go_aload_n (q := 110) (gDec iX11_dropKern_ok 67 rfl) rfl rfl rfl ?_
  refine go_getr (r' := 377) (q := 113) fX11_9 (gDec iX11_dropKern_ok 68 rfl) rfl (by decide) rfl ?_
  refine go_iconst (v := nI 3) (q := 114) (gDec iX11_dropKern_ok 69 rfl) (by decide) rfl ?_
  refine go_dup2 (q := 115) (gDec iX11_dropKern_ok 70 rfl) rfl rfl rfl ?_
  refine go_ialdN (q := 116) (gDec iX11_dropKern_ok 71 rfl) rfl (by decide) (j := 3) (by omega) (by decide) rfl ?_
  refine go_top (v' := nI (n + 1)) (hn3) ?_
  refine go_iconst (v := 1) (q := 117) (gDec iX11_dropKern_ok 72 rfl) (by decide) rfl ?_
  refine go_isub (q := 118) (gDec iX11_dropKern_ok 73 rfl) rfl ?_
  refine go_top (v' := nI n) (nI_pred n) ?_
  refine go_iastN (q := 119) (gDec iX11_dropKern_ok 74 rfl) rfl (by decide) (j := 3) (by omega) (by decide) rfl ?_
  refine go_aload_n (q := 120) (gDec iX11_dropKern_ok 75 rfl) rfl rfl rfl ?_
  refine go_getr (r' := 377) (q := 123) fX11_9 (gDec iX11_dropKern_ok 76 rfl) rfl (by decide) rfl ?_
  refine go_bipush (v := nI 76) (q := 125) (gDec iX11_dropKern_ok 77 rfl) (by decide) rfl ?_
  refine go_iconst (v := nI 3) (q := 126) (gDec iX11_dropKern_ok 78 rfl) (by decide) rfl ?_
  refine go_aload_n (q := 127) (gDec iX11_dropKern_ok 79 rfl) rfl rfl rfl ?_
  refine go_getr (r' := 377) (q := 130) fX11_9 (gDec iX11_dropKern_ok 80 rfl) rfl (by decide) rfl ?_
  refine go_iconst (v := nI 3) (q := 131) (gDec iX11_dropKern_ok 81 rfl) (by decide) rfl ?_
  refine go_ialdN (q := 132) (gDec iX11_dropKern_ok 82 rfl) rfl (by decide) (j := 3) (by omega) (by decide) rfl ?_
  refine go_top (v' := nI n) (by rw [gPut_at, if_pos ⟨rfl, rfl⟩]) ?_
  refine go_imulN (c := 3 * n) (q := 133) (gDec iX11_dropKern_ok 83 rfl) rfl rfl ?_
  refine go_iaddN (c := 76 + (3 * n)) (q := 134) (gDec iX11_dropKern_ok 84 rfl) rfl rfl ?_
  refine go_aload_n (q := 135) (gDec iX11_dropKern_ok 85 rfl) rfl rfl rfl ?_
  refine go_getr (r' := 377) (q := 138) fX11_9 (gDec iX11_dropKern_ok 86 rfl) rfl (by decide) rfl ?_
  refine go_bipush (v := nI 76) (q := 140) (gDec iX11_dropKern_ok 87 rfl) (by decide) rfl ?_
  refine go_iconst (v := nI 3) (q := 141) (gDec iX11_dropKern_ok 88 rfl) (by decide) rfl ?_
  refine go_iload (q := 143) (gDec iX11_dropKern_ok 89 rfl) rfl rfl ?_
  refine go_imulN (c := 3 * k) (q := 144) (gDec iX11_dropKern_ok 90 rfl) rfl rfl ?_
  refine go_iaddN (c := 76 + (3 * k)) (q := 145) (gDec iX11_dropKern_ok 91 rfl) rfl rfl ?_
  refine go_iconst (v := nI 3) (q := 146) (gDec iX11_dropKern_ok 92 rfl) (by decide) rfl ?_
  refine go_copy (q := 149) kX11_79 (gDec iX11_dropKern_ok 93 rfl) rfl rfl (by decide) (by decide) (nI_pos (by omega)) (nI_pos (by omega)) (by decide) (by rw [nI_clamp (by omega), nI_clamp (by decide)]; omega) (by rw [nI_clamp (by omega), nI_clamp (by decide)]; omega) (Nat.le_of_ble_eq_true rfl) (gFit_rm (by decide) (by decide)) rfl ?_
  refine go_w (show _ = (gSA (gPut (gChg (gPut σ 376 5 0) (nA (τ.1 71 2))) 377 3 (nI n)).1 377 (va_cpy (upd (σ.1 377) 3 (nI n)) (upd (σ.1 377) 3 (nI n)) (76 + 3 * n) (76 + 3 * k) 3), (gPut (gChg (gPut σ 376 5 0) (nA (τ.1 71 2))) 377 3 (nI n)).2) from (by rw [nI_clamp (by omega), nI_clamp (by omega), nI_clamp (by decide)]; rfl)) ?_
  refine go_iload (q := 151) (gDec iX11_dropKern_ok 94 rfl) rfl rfl ?_
  exact go_ireturn (gDec iX11_dropKern_ok 95 rfl) rfl rfl rfl rfl (by decide)

set_option maxHeartbeats 4000000 in
set_option maxRecDepth 100000 in
theorem ok_dropKern {κ : gK} {σ τ : gST} {w a b : Int32} (h : gAll τ σ) : gOK κ mX11_dropKern [.ref (κ.2.1 + 376), .int w, .int a, .int b] σ (rI (aI (fDropKern τ w a b).1)) kN (fDropKern τ w a b) := by
  have hC := h.ci
  have hM := h.mr
  have hW := hC.dw
  have h24 := hW.ng24
  have hR := gRem_1 τ
  have eR20 : (gRem τ).1 20 5 = τ.1 20 5 := hR.1.2.2.1
  have eR28 : (gRem τ).1 28 = τ.1 28 := (gRem_D τ) 28 (by decide)
  have eR26 : (gRem τ).1 26 = τ.1 26 := (gRem_D τ) 26 (by decide)
  have h40 := hM.mp.n40
  by_cases hw : w = 0
  · subst hw
    by_cases h1 : gInt2 5 a b
    · obtain ⟨i, j, hi, hj, rfl, rfl⟩ := gInt2.ex (n := 5) h1
      by_cases h2 : τ.1 26 (i * 6 + j) = 301
      · rw [show fDropKern τ 0 (nI i) (nI j) = (xNSE, τ) from (if_pos rfl).trans (if_neg (fun h9 => h9.2 (by rw [nA_nI (by omega), nA_nI (by omega)]; exact h2)))]
        refine gOK.rd h rfl ?_
        refine ct_of (by decide +kernel) rfl (Nat.le_of_ble_eq_true rfl) rfl ?_
        refine go_iload_n (q := 1) (gDec iX11_dropKern_ok 0 rfl) rfl rfl rfl ?_
        refine go_if_eq (t := 13) (q := 4) (gDec iX11_dropKern_ok 1 rfl) (by decide) rfl (fun c1 => ?_) (fun c1 => False.elim (c1 rfl))
        refine go_iconst (v := (-1)) (q := 14) (gDec iX11_dropKern_ok 7 rfl) (by decide) rfl ?_
        refine go_istore (q := 16) (gDec iX11_dropKern_ok 8 rfl) (by decide) rfl ?_
        refine go_aload_n (q := 17) (gDec iX11_dropKern_ok 9 rfl) rfl rfl rfl ?_
        refine go_iload_n (q := 18) (gDec iX11_dropKern_ok 10 rfl) rfl rfl rfl ?_
        refine go_if_eq (t := 26) (q := 21) (gDec iX11_dropKern_ok 11 rfl) (by decide) rfl (fun c18 => ?_) (fun c18 => False.elim (c18 rfl))
        refine go_iload_n (q := 27) (gDec iX11_dropKern_ok 14 rfl) rfl rfl rfl ?_
        refine go_if_ne (t := 43) (q := 30) (gDec iX11_dropKern_ok 15 rfl) (by decide) rfl (fun c27 => False.elim (c27 rfl)) (fun c27 => ?_)
        refine go_aload_n (q := 31) (gDec iX11_dropKern_ok 16 rfl) rfl rfl rfl ?_
        refine go_iload_n (q := 32) (gDec iX11_dropKern_ok 17 rfl) rfl rfl rfl ?_
        refine go_iload_n (q := 33) (gDec iX11_dropKern_ok 18 rfl) rfl rfl rfl ?_
        refine go_callV (n2 := 0) (q := 36) kX11_166 (ctX11_isToldFor (τ := τ) (a := i) (b := j) hM (by omega) (by omega)) (gDec iX11_dropKern_ok 19 rfl) rfl rfl (by decide) rfl rfl rfl (Nat.le_of_ble_eq_true rfl) rfl (gFit_rm (by decide) (by decide)) rfl ?_
        refine go_top (v' := 0) (if_pos h2) ?_
        refine go_if_ne (t := 43) (q := 39) (gDec iX11_dropKern_ok 20 rfl) (by decide) rfl (fun c36 => False.elim (c36 rfl)) (fun c36 => ?_)
        refine go_iconst (v := nI 1) (q := 40) (gDec iX11_dropKern_ok 21 rfl) (by decide) rfl ?_
        refine go_goto (t := 44) (gDec iX11_dropKern_ok 22 rfl) (by decide) ?_
        refine go_puti (q := 47) fX11_54 gft11 (gDec iX11_dropKern_ok 24 rfl) rfl (by decide) rfl rfl rfl rfl ?_
        refine go_aload_n (q := 48) (gDec iX11_dropKern_ok 25 rfl) rfl rfl rfl ?_
        refine go_geti (q := 51) fX11_54 (gDec iX11_dropKern_ok 26 rfl) rfl (by decide) rfl ?_
        refine go_top (v' := nI 1) rfl ?_
        refine go_if_le (t := 56) (q := 54) (gDec iX11_dropKern_ok 27 rfl) (by decide) rfl (fun c51 => False.elim (absurd c51 (by decide))) (fun c51 => ?_)
        refine go_iconst (v := nI 0) (q := 55) (gDec iX11_dropKern_ok 28 rfl) (by decide) rfl ?_
        exact go_ireturn (gDec iX11_dropKern_ok 29 rfl) rfl rfl rfl (congrArg (gPut σ 376 5) xc_N_N) (by decide)
      · rw [show fDropKern τ 0 (nI i) (nI j) = (rI (τ.1 26 (i * 6 + j)), gDpC (gRem τ) i j) from (if_pos rfl).trans ((if_pos ⟨h1, by rw [nA_nI (by omega), nA_nI (by omega)]; exact h2⟩).trans (by rw [nA_nI (by omega), nA_nI (by omega), eR26]))]
        have ho : ∀ k, k ≠ 20 → k ≠ 26 → (gDpC (gRem τ) i j).1 k = (gRem τ).1 k := fun k q1 q2 => by unfold gDpC; rw [gPut_ne _ _ _ q1, gPut_ne _ _ _ q2]
        refine gOK.ch h (okw_dropC h (by omega) (by omega) h2) (mt_dropC (gRem_ci hC) (gRem_mr hC hM) (by omega) (by omega) (by rw [eR26]; exact h2)) (fun k hk => ho k (by omega) (by omega)) ?_ (fun k hk => gPut_ne _ _ _ hk) rfl
        have e : gNg (gDpC (gRem τ) i j) = gNg (gRem τ) := by unfold gNg; rw [ho 2 (by decide) (by decide)]
        rw [e, gRem_ng]
        exact Nat.le_refl _
    · rw [show fDropKern τ 0 a b = (xNSE, τ) from (if_pos rfl).trans (if_neg (fun h9 => h1 h9.1))]
      refine gOK.rd h rfl ?_
      refine ct_of (by decide +kernel) rfl (Nat.le_of_ble_eq_true rfl) rfl ?_
      refine go_iload_n (q := 1) (gDec iX11_dropKern_ok 0 rfl) rfl rfl rfl ?_
      refine go_if_eq (t := 13) (q := 4) (gDec iX11_dropKern_ok 1 rfl) (by decide) rfl (fun c1 => ?_) (fun c1 => False.elim (c1 rfl))
      refine go_iconst (v := (-1)) (q := 14) (gDec iX11_dropKern_ok 7 rfl) (by decide) rfl ?_
      refine go_istore (q := 16) (gDec iX11_dropKern_ok 8 rfl) (by decide) rfl ?_
      refine go_aload_n (q := 17) (gDec iX11_dropKern_ok 9 rfl) rfl rfl rfl ?_
      refine go_iload_n (q := 18) (gDec iX11_dropKern_ok 10 rfl) rfl rfl rfl ?_
      refine go_if_eq (t := 26) (q := 21) (gDec iX11_dropKern_ok 11 rfl) (by decide) rfl (fun c18 => ?_) (fun c18 => False.elim (c18 rfl))
      refine go_iload_n (q := 27) (gDec iX11_dropKern_ok 14 rfl) rfl rfl rfl ?_
      refine go_if_ne (t := 43) (q := 30) (gDec iX11_dropKern_ok 15 rfl) (by decide) rfl (fun c27 => False.elim (c27 rfl)) (fun c27 => ?_)
      refine go_aload_n (q := 31) (gDec iX11_dropKern_ok 16 rfl) rfl rfl rfl ?_
      refine go_iload_n (q := 32) (gDec iX11_dropKern_ok 17 rfl) rfl rfl rfl ?_
      refine go_iload_n (q := 33) (gDec iX11_dropKern_ok 18 rfl) rfl rfl rfl ?_
      refine go_callV (n2 := 0) (q := 36) kX11_166 (ctX11_isToldFor0 h1) (gDec iX11_dropKern_ok 19 rfl) rfl rfl (by decide) rfl rfl rfl (Nat.le_of_ble_eq_true rfl) rfl (gFit_rm (by decide) (by decide)) rfl ?_
      refine go_if_ne (t := 43) (q := 39) (gDec iX11_dropKern_ok 20 rfl) (by decide) rfl (fun c36 => False.elim (c36 rfl)) (fun c36 => ?_)
      refine go_iconst (v := nI 1) (q := 40) (gDec iX11_dropKern_ok 21 rfl) (by decide) rfl ?_
      refine go_goto (t := 44) (gDec iX11_dropKern_ok 22 rfl) (by decide) ?_
      refine go_puti (q := 47) fX11_54 gft11 (gDec iX11_dropKern_ok 24 rfl) rfl (by decide) rfl rfl rfl rfl ?_
      refine go_aload_n (q := 48) (gDec iX11_dropKern_ok 25 rfl) rfl rfl rfl ?_
      refine go_geti (q := 51) fX11_54 (gDec iX11_dropKern_ok 26 rfl) rfl (by decide) rfl ?_
      refine go_top (v' := nI 1) rfl ?_
      refine go_if_le (t := 56) (q := 54) (gDec iX11_dropKern_ok 27 rfl) (by decide) rfl (fun c51 => False.elim (absurd c51 (by decide))) (fun c51 => ?_)
      refine go_iconst (v := nI 0) (q := 55) (gDec iX11_dropKern_ok 28 rfl) (by decide) rfl ?_
      exact go_ireturn (gDec iX11_dropKern_ok 29 rfl) rfl rfl rfl (congrArg (gPut σ 376 5) xc_N_N) (by decide)
  · by_cases h1 : gInt2 23 a b
    · obtain ⟨i, j, hi, hj, rfl, rfl⟩ := gInt2.ex (n := 23) h1
      by_cases h2 : τ.1 28 (i * 24 + j) = 301
      · rw [show fDropKern τ w (nI i) (nI j) = (xNSE, τ) from (if_neg hw).trans (if_neg (fun h9 => h9.2 (by rw [nA_nI (by omega), nA_nI (by omega)]; exact h2)))]
        refine gOK.rd h rfl ?_
        refine ct_of (by decide +kernel) rfl (Nat.le_of_ble_eq_true rfl) rfl ?_
        refine go_iload_n (q := 1) (gDec iX11_dropKern_ok 0 rfl) rfl rfl rfl ?_
        refine go_if_eq (t := 13) (q := 4) (gDec iX11_dropKern_ok 1 rfl) (by decide) rfl (fun c1 => False.elim (hw c1)) (fun c1 => ?_)
        refine go_aload_n (q := 5) (gDec iX11_dropKern_ok 2 rfl) rfl rfl rfl ?_
        refine go_iload_n (q := 6) (gDec iX11_dropKern_ok 3 rfl) rfl rfl rfl ?_
        refine go_iload_n (q := 7) (gDec iX11_dropKern_ok 4 rfl) rfl rfl rfl ?_
        refine go_callV (n2 := 0) (q := 10) kX11_163 (ctX11_pairOf (τ := τ) hM) (gDec iX11_dropKern_ok 5 rfl) rfl rfl (by decide) rfl rfl rfl (Nat.le_of_ble_eq_true rfl) rfl (gFit_rm (by decide) (by decide)) rfl ?_
        refine go_top (v' := -1) (gPo_none hM.mp (by omega) (by omega) h2) ?_
        refine go_goto (t := 14) (gDec iX11_dropKern_ok 6 rfl) (by decide) ?_
        refine go_istore (q := 16) (gDec iX11_dropKern_ok 8 rfl) (by decide) rfl ?_
        refine go_aload_n (q := 17) (gDec iX11_dropKern_ok 9 rfl) rfl rfl rfl ?_
        refine go_iload_n (q := 18) (gDec iX11_dropKern_ok 10 rfl) rfl rfl rfl ?_
        refine go_if_eq (t := 26) (q := 21) (gDec iX11_dropKern_ok 11 rfl) (by decide) rfl (fun c18 => False.elim (hw c18)) (fun c18 => ?_)
        refine go_iload (q := 23) (gDec iX11_dropKern_ok 12 rfl) rfl rfl ?_
        refine go_if_lt (t := 39) (q := 26) (gDec iX11_dropKern_ok 13 rfl) (by decide) rfl (fun c23 => ?_) (fun c23 => False.elim (c23 (by decide)))
        refine go_iconst (v := nI 1) (q := 40) (gDec iX11_dropKern_ok 21 rfl) (by decide) rfl ?_
        refine go_goto (t := 44) (gDec iX11_dropKern_ok 22 rfl) (by decide) ?_
        refine go_puti (q := 47) fX11_54 gft11 (gDec iX11_dropKern_ok 24 rfl) rfl (by decide) rfl rfl rfl rfl ?_
        refine go_aload_n (q := 48) (gDec iX11_dropKern_ok 25 rfl) rfl rfl rfl ?_
        refine go_geti (q := 51) fX11_54 (gDec iX11_dropKern_ok 26 rfl) rfl (by decide) rfl ?_
        refine go_top (v' := nI 1) rfl ?_
        refine go_if_le (t := 56) (q := 54) (gDec iX11_dropKern_ok 27 rfl) (by decide) rfl (fun c51 => False.elim (absurd c51 (by decide))) (fun c51 => ?_)
        refine go_iconst (v := nI 0) (q := 55) (gDec iX11_dropKern_ok 28 rfl) (by decide) rfl ?_
        exact go_ireturn (gDec iX11_dropKern_ok 29 rfl) rfl rfl rfl (congrArg (gPut σ 376 5) xc_N_N) (by decide)
      · rw [show fDropKern τ w (nI i) (nI j) = (rI (τ.1 28 (i * 24 + j)), gDpP (gRem τ) i j) from (if_neg hw).trans ((if_pos ⟨h1, by rw [nA_nI (by omega), nA_nI (by omega)]; exact h2⟩).trans (by rw [nA_nI (by omega), nA_nI (by omega), eR28]))]
        have ho : ∀ k, k ≠ 20 → k ≠ 28 → (gDpP (gRem τ) i j).1 k = (gRem τ).1 k := fun k q1 q2 => by unfold gDpP; rw [gPut_ne _ _ _ q1, gPut_ne _ _ _ q2]
        obtain ⟨k, hk, hk2, hk5, hk3, hk4⟩ := gPo_some hM.mp (i := i) (j := j) (by omega) (by omega) h2
        obtain ⟨n, hn⟩ : ∃ n, nA (τ.1 20 5) = n + 1 := ⟨nA (τ.1 20 5) - 1, by omega⟩
        have hmt := mt_dropP (i := i) (j := j) (k := k) (n := n) (gRem_ci hC) (gRem_mr hC hM) (by omega) (by omega) (by rw [eR28]; exact h2) (by rw [eR20]; exact hn) (by omega) hk3 hk4
        refine gOK.ch h (okw_dropP (n := n) h hw hk2 (by omega) (by omega) (hM.pn.trans (by rw [hn])) hk5) ⟨hmt.1, ?_⟩ (fun k hk => ho k (by omega) (by omega)) ?_ (fun k hk => ?_) rfl
        · exact hmt.2
        · have e : gNg (gDpP (gRem τ) i j) = gNg (gRem τ) := by unfold gNg; rw [ho 2 (by decide) (by decide)]
          rw [e, gRem_ng]
          exact Nat.le_refl _
        · exact (gSA_ne _ _ hk).trans (gPut_ne _ _ _ hk)
    · rw [show fDropKern τ w a b = (xNSE, τ) from (if_neg hw).trans (if_neg (fun h9 => h1 h9.1))]
      refine gOK.rd h rfl ?_
      refine ct_of (by decide +kernel) rfl (Nat.le_of_ble_eq_true rfl) rfl ?_
      refine go_iload_n (q := 1) (gDec iX11_dropKern_ok 0 rfl) rfl rfl rfl ?_
      refine go_if_eq (t := 13) (q := 4) (gDec iX11_dropKern_ok 1 rfl) (by decide) rfl (fun c1 => False.elim (hw c1)) (fun c1 => ?_)
      refine go_aload_n (q := 5) (gDec iX11_dropKern_ok 2 rfl) rfl rfl rfl ?_
      refine go_iload_n (q := 6) (gDec iX11_dropKern_ok 3 rfl) rfl rfl rfl ?_
      refine go_iload_n (q := 7) (gDec iX11_dropKern_ok 4 rfl) rfl rfl rfl ?_
      refine go_callV (n2 := 0) (q := 10) kX11_163 (ctX11_pairOf (τ := τ) hM) (gDec iX11_dropKern_ok 5 rfl) rfl rfl (by decide) rfl rfl rfl (Nat.le_of_ble_eq_true rfl) rfl (gFit_rm (by decide) (by decide)) rfl ?_
      refine go_top (v' := -1) (gPo_out hM.mp h1) ?_
      refine go_goto (t := 14) (gDec iX11_dropKern_ok 6 rfl) (by decide) ?_
      refine go_istore (q := 16) (gDec iX11_dropKern_ok 8 rfl) (by decide) rfl ?_
      refine go_aload_n (q := 17) (gDec iX11_dropKern_ok 9 rfl) rfl rfl rfl ?_
      refine go_iload_n (q := 18) (gDec iX11_dropKern_ok 10 rfl) rfl rfl rfl ?_
      refine go_if_eq (t := 26) (q := 21) (gDec iX11_dropKern_ok 11 rfl) (by decide) rfl (fun c18 => False.elim (hw c18)) (fun c18 => ?_)
      refine go_iload (q := 23) (gDec iX11_dropKern_ok 12 rfl) rfl rfl ?_
      refine go_if_lt (t := 39) (q := 26) (gDec iX11_dropKern_ok 13 rfl) (by decide) rfl (fun c23 => ?_) (fun c23 => False.elim (c23 (by decide)))
      refine go_iconst (v := nI 1) (q := 40) (gDec iX11_dropKern_ok 21 rfl) (by decide) rfl ?_
      refine go_goto (t := 44) (gDec iX11_dropKern_ok 22 rfl) (by decide) ?_
      refine go_puti (q := 47) fX11_54 gft11 (gDec iX11_dropKern_ok 24 rfl) rfl (by decide) rfl rfl rfl rfl ?_
      refine go_aload_n (q := 48) (gDec iX11_dropKern_ok 25 rfl) rfl rfl rfl ?_
      refine go_geti (q := 51) fX11_54 (gDec iX11_dropKern_ok 26 rfl) rfl (by decide) rfl ?_
      refine go_top (v' := nI 1) rfl ?_
      refine go_if_le (t := 56) (q := 54) (gDec iX11_dropKern_ok 27 rfl) (by decide) rfl (fun c51 => False.elim (absurd c51 (by decide))) (fun c51 => ?_)
      refine go_iconst (v := nI 0) (q := 55) (gDec iX11_dropKern_ok 28 rfl) (by decide) rfl ?_
      exact go_ireturn (gDec iX11_dropKern_ok 29 rfl) rfl rfl rfl (congrArg (gPut σ 376 5) xc_N_N) (by decide)
