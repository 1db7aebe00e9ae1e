theorem nI_div2'' {b : Nat} (h : b < 48) : nI b / nI 2 = nI (b / 2) := nI_div2 h

set_option maxHeartbeats 4000000 in
set_option maxRecDepth 100000 in
theorem ctX11_side {κ : gK} {σ τ : gST} {g s w : Int32} (hC : gCI τ) (hM : gMR τ (σ.1 377)) : gCt κ mX11_side 9 [.ref (κ.2.1 + 376), .int g, .int s, .int w] σ (rI (aI (fSide τ g s w).1)) (gPut σ 376 5 (xC kOA (fSide τ g s w).1)) 0 := by
  have hW := hC.dw
  have h24 := hW.ng24
  refine ct_of (by decide +kernel) rfl (Nat.le_of_ble_eq_true rfl) rfl ?_
  by_cases h1 : gInS τ g s
  · have hs : fSide τ g s w = _ := if_pos h1
    rw [hs]
    obtain ⟨i, j, hi, hj, rfl, rfl⟩ := gInS.ex h1
    rw [nA_nI (n := i) (by omega), nA_nI (n := j) (by omega), show i * 2 + j = 2 * i + j by omega]
    by_cases h2 : 0 ≤ w.toInt ∧ w.toInt ≤ 3
    · rw [if_pos h2]
      obtain ⟨k, hk, rfl⟩ := gIn_ex (n := 4) (show 0 ≤ w.toInt ∧ w.toInt ≤ ((4 : Nat) : Int) - 1 from h2)
      rcases (by omega : k = 0 ∨ k = 1 ∨ k = 2 ∨ k = 3) with h9 | h9 | h9 | h9 <;> subst h9
      · rw [if_pos (show nI 0 = 0 from rfl)]
        refine go_aload_n (q := 1) (gDec iX11_side_ok 0 rfl) rfl rfl rfl ?_
        refine go_aload_n (q := 2) (gDec iX11_side_ok 1 rfl) rfl rfl rfl ?_
        refine go_iload_n (q := 3) (gDec iX11_side_ok 2 rfl) rfl rfl rfl ?_
        refine go_iload_n (q := 4) (gDec iX11_side_ok 3 rfl) rfl rfl rfl ?_
        refine go_callV (n2 := 0) (q := 7) kX11_144 (ctX11_isSide (τ := τ) hW hM) (gDec iX11_side_ok 4 rfl) rfl rfl (by decide) rfl rfl rfl (Nat.le_of_ble_eq_true rfl) rfl (gFit_rm (by decide) (by decide)) rfl ?_
        refine go_top (v' := 1) (if_pos h1) ?_
        refine go_if_ne (t := 14) (q := 10) (gDec iX11_side_ok 5 rfl) (by decide) rfl (fun c7 => ?_) (fun c7 => False.elim (absurd c7 (by decide)))
        refine go_iload_n (q := 15) (gDec iX11_side_ok 8 rfl) rfl rfl rfl ?_
        refine go_i2l (q := 16) (gDec iX11_side_ok 9 rfl) rfl ?_
        refine go_iconst (v := nI 0) (q := 17) (gDec iX11_side_ok 10 rfl) (by decide) rfl ?_
        refine go_iconst (v := nI 3) (q := 18) (gDec iX11_side_ok 11 rfl) (by decide) rfl ?_
        refine go_callS (n2 := 0) (q := 21) kX11_57 ctX11_in (gDec iX11_side_ok 12 rfl) rfl rfl (Nat.le_of_ble_eq_true rfl) rfl (gFit_rm (by decide) (by decide)) rfl ?_
        refine go_top (v' := 1) (gWi_t (by (try rw [i2l_toInt]); exact h2)) ?_
        refine go_if_ne (t := 28) (q := 24) (gDec iX11_side_ok 13 rfl) (by decide) rfl (fun c21 => ?_) (fun c21 => False.elim (absurd c21 (by decide)))
        refine go_iconst (v := nI 0) (q := 29) (gDec iX11_side_ok 16 rfl) (by decide) rfl ?_
        refine go_puti (q := 32) fX11_54 gft11 (gDec iX11_side_ok 17 rfl) rfl (by decide) rfl rfl rfl rfl ?_
        refine go_aload_n (q := 33) (gDec iX11_side_ok 18 rfl) rfl rfl rfl ?_
        refine go_geti (q := 36) fX11_54 (gDec iX11_side_ok 19 rfl) rfl (by decide) rfl ?_
        refine go_top (v' := nI 0) rfl ?_
        refine go_if_le (t := 41) (q := 39) (gDec iX11_side_ok 20 rfl) (by decide) rfl (fun c36 => ?_) (fun c36 => False.elim (c36 (by decide)))
        refine go_iconst (v := nI 2) (q := 42) (gDec iX11_side_ok 23 rfl) (by decide) rfl ?_
        refine go_iload_n (q := 43) (gDec iX11_side_ok 24 rfl) rfl rfl rfl ?_
        refine go_imulN (c := 2 * i) (q := 44) (gDec iX11_side_ok 25 rfl) rfl rfl ?_
        refine go_iload_n (q := 45) (gDec iX11_side_ok 26 rfl) rfl rfl rfl ?_
        refine go_iaddN (c := 2 * i + j) (q := 46) (gDec iX11_side_ok 27 rfl) rfl rfl ?_
        refine go_istore (q := 48) (gDec iX11_side_ok 28 rfl) (by decide) rfl ?_
        refine go_aload_n (q := 49) (gDec iX11_side_ok 29 rfl) rfl rfl rfl ?_
        refine go_iload (q := 51) (gDec iX11_side_ok 30 rfl) rfl rfl ?_
        refine go_callV (n2 := 0) (q := 54) kX11_138 (ctX11_followed (b := 2 * i + j) hC (gMRt hM) (by omega)) (gDec iX11_side_ok 31 rfl) rfl rfl (by decide) rfl rfl rfl (Nat.le_of_ble_eq_true rfl) rfl (gFit_rm (by decide) (by decide)) rfl ?_
        refine go_istore (q := 56) (gDec iX11_side_ok 32 rfl) (by decide) rfl ?_
        refine go_iload_n (q := 57) (gDec iX11_side_ok 33 rfl) rfl rfl rfl ?_
        refine go_if_ne (t := 69) (q := 60) (gDec iX11_side_ok 34 rfl) (by decide) rfl (fun c57 => False.elim (c57 rfl)) (fun c57 => ?_)
        refine go_aload_n (q := 61) (gDec iX11_side_ok 35 rfl) rfl rfl rfl ?_
        refine go_iload (q := 63) (gDec iX11_side_ok 36 rfl) rfl rfl ?_
        refine go_callV (n2 := 0) (q := 66) kX11_141 (ctX11_bearing (b := 2 * i + j) hC (gMRt hM) (by omega)) (gDec iX11_side_ok 37 rfl) rfl rfl (by decide) rfl rfl rfl (Nat.le_of_ble_eq_true rfl) rfl (gFit_rm (by decide) (by decide)) rfl ?_
        refine go_goto (t := 108) (gDec iX11_side_ok 38 rfl) (by decide) ?_
        exact go_ireturn (gDec iX11_side_ok 60 rfl) rfl rfl rfl rfl (by decide)
      · rw [if_neg (by decide), if_pos (show nI 1 = 1 from rfl)]
        cases hf : gLe τ (2 * i + j) with
        | none =>
          refine go_aload_n (q := 1) (gDec iX11_side_ok 0 rfl) rfl rfl rfl ?_
          refine go_aload_n (q := 2) (gDec iX11_side_ok 1 rfl) rfl rfl rfl ?_
          refine go_iload_n (q := 3) (gDec iX11_side_ok 2 rfl) rfl rfl rfl ?_
          refine go_iload_n (q := 4) (gDec iX11_side_ok 3 rfl) rfl rfl rfl ?_
          refine go_callV (n2 := 0) (q := 7) kX11_144 (ctX11_isSide (τ := τ) hW hM) (gDec iX11_side_ok 4 rfl) rfl rfl (by decide) rfl rfl rfl (Nat.le_of_ble_eq_true rfl) rfl (gFit_rm (by decide) (by decide)) rfl ?_
          refine go_top (v' := 1) (if_pos h1) ?_
          refine go_if_ne (t := 14) (q := 10) (gDec iX11_side_ok 5 rfl) (by decide) rfl (fun c7 => ?_) (fun c7 => False.elim (absurd c7 (by decide)))
          refine go_iload_n (q := 15) (gDec iX11_side_ok 8 rfl) rfl rfl rfl ?_
          refine go_i2l (q := 16) (gDec iX11_side_ok 9 rfl) rfl ?_
          refine go_iconst (v := nI 0) (q := 17) (gDec iX11_side_ok 10 rfl) (by decide) rfl ?_
          refine go_iconst (v := nI 3) (q := 18) (gDec iX11_side_ok 11 rfl) (by decide) rfl ?_
          refine go_callS (n2 := 0) (q := 21) kX11_57 ctX11_in (gDec iX11_side_ok 12 rfl) rfl rfl (Nat.le_of_ble_eq_true rfl) rfl (gFit_rm (by decide) (by decide)) rfl ?_
          refine go_top (v' := 1) (gWi_t (by (try rw [i2l_toInt]); exact h2)) ?_
          refine go_if_ne (t := 28) (q := 24) (gDec iX11_side_ok 13 rfl) (by decide) rfl (fun c21 => ?_) (fun c21 => False.elim (absurd c21 (by decide)))
          refine go_iconst (v := nI 0) (q := 29) (gDec iX11_side_ok 16 rfl) (by decide) rfl ?_
          refine go_puti (q := 32) fX11_54 gft11 (gDec iX11_side_ok 17 rfl) rfl (by decide) rfl rfl rfl rfl ?_
          refine go_aload_n (q := 33) (gDec iX11_side_ok 18 rfl) rfl rfl rfl ?_
          refine go_geti (q := 36) fX11_54 (gDec iX11_side_ok 19 rfl) rfl (by decide) rfl ?_
          refine go_top (v' := nI 0) rfl ?_
          refine go_if_le (t := 41) (q := 39) (gDec iX11_side_ok 20 rfl) (by decide) rfl (fun c36 => ?_) (fun c36 => False.elim (c36 (by decide)))
          refine go_iconst (v := nI 2) (q := 42) (gDec iX11_side_ok 23 rfl) (by decide) rfl ?_
          refine go_iload_n (q := 43) (gDec iX11_side_ok 24 rfl) rfl rfl rfl ?_
          refine go_imulN (c := 2 * i) (q := 44) (gDec iX11_side_ok 25 rfl) rfl rfl ?_
          refine go_iload_n (q := 45) (gDec iX11_side_ok 26 rfl) rfl rfl rfl ?_
          refine go_iaddN (c := 2 * i + j) (q := 46) (gDec iX11_side_ok 27 rfl) rfl rfl ?_
          refine go_istore (q := 48) (gDec iX11_side_ok 28 rfl) (by decide) rfl ?_
          refine go_aload_n (q := 49) (gDec iX11_side_ok 29 rfl) rfl rfl rfl ?_
          refine go_iload (q := 51) (gDec iX11_side_ok 30 rfl) rfl rfl ?_
          refine go_callV (n2 := 0) (q := 54) kX11_138 (ctX11_followed (b := 2 * i + j) hC (gMRt hM) (by omega)) (gDec iX11_side_ok 31 rfl) rfl rfl (by decide) rfl rfl rfl (Nat.le_of_ble_eq_true rfl) rfl (gFit_rm (by decide) (by decide)) rfl ?_
          refine go_top (v' := -1) (by rw [hf]; rfl) ?_
          refine go_istore (q := 56) (gDec iX11_side_ok 32 rfl) (by decide) rfl ?_
          refine go_iload_n (q := 57) (gDec iX11_side_ok 33 rfl) rfl rfl rfl ?_
          refine go_if_ne (t := 69) (q := 60) (gDec iX11_side_ok 34 rfl) (by decide) rfl (fun c57 => ?_) (fun c57 => False.elim (absurd c57 (by decide)))
          refine go_iload_n (q := 70) (gDec iX11_side_ok 39 rfl) rfl rfl rfl ?_
          refine go_iconst (v := nI 3) (q := 71) (gDec iX11_side_ok 40 rfl) (by decide) rfl ?_
          refine go_icmp_ne (t := 83) (q := 74) (gDec iX11_side_ok 41 rfl) (by decide) rfl (fun c71 => ?_) (fun c71 => False.elim (absurd c71 (by decide)))
          refine go_iload (q := 85) (gDec iX11_side_ok 46 rfl) rfl rfl ?_
          refine go_if_ge (t := 92) (q := 88) (gDec iX11_side_ok 47 rfl) (by decide) rfl (fun c85 => False.elim (absurd c85 (by decide))) (fun c85 => ?_)
          refine go_iconst (v := (-1)) (q := 89) (gDec iX11_side_ok 48 rfl) (by decide) rfl ?_
          refine go_goto (t := 108) (gDec iX11_side_ok 49 rfl) (by decide) ?_
          exact go_ireturn (gDec iX11_side_ok 60 rfl) rfl rfl rfl rfl (by decide)
        | some f =>
          have hf2 := hC.lw.1 _ f (show 2 * i + j < 2 * gNg τ by omega) hf
          refine go_aload_n (q := 1) (gDec iX11_side_ok 0 rfl) rfl rfl rfl ?_
          refine go_aload_n (q := 2) (gDec iX11_side_ok 1 rfl) rfl rfl rfl ?_
          refine go_iload_n (q := 3) (gDec iX11_side_ok 2 rfl) rfl rfl rfl ?_
          refine go_iload_n (q := 4) (gDec iX11_side_ok 3 rfl) rfl rfl rfl ?_
          refine go_callV (n2 := 0) (q := 7) kX11_144 (ctX11_isSide (τ := τ) hW hM) (gDec iX11_side_ok 4 rfl) rfl rfl (by decide) rfl rfl rfl (Nat.le_of_ble_eq_true rfl) rfl (gFit_rm (by decide) (by decide)) rfl ?_
          refine go_top (v' := 1) (if_pos h1) ?_
          refine go_if_ne (t := 14) (q := 10) (gDec iX11_side_ok 5 rfl) (by decide) rfl (fun c7 => ?_) (fun c7 => False.elim (absurd c7 (by decide)))
          refine go_iload_n (q := 15) (gDec iX11_side_ok 8 rfl) rfl rfl rfl ?_
          refine go_i2l (q := 16) (gDec iX11_side_ok 9 rfl) rfl ?_
          refine go_iconst (v := nI 0) (q := 17) (gDec iX11_side_ok 10 rfl) (by decide) rfl ?_
          refine go_iconst (v := nI 3) (q := 18) (gDec iX11_side_ok 11 rfl) (by decide) rfl ?_
          refine go_callS (n2 := 0) (q := 21) kX11_57 ctX11_in (gDec iX11_side_ok 12 rfl) rfl rfl (Nat.le_of_ble_eq_true rfl) rfl (gFit_rm (by decide) (by decide)) rfl ?_
          refine go_top (v' := 1) (gWi_t (by (try rw [i2l_toInt]); exact h2)) ?_
          refine go_if_ne (t := 28) (q := 24) (gDec iX11_side_ok 13 rfl) (by decide) rfl (fun c21 => ?_) (fun c21 => False.elim (absurd c21 (by decide)))
          refine go_iconst (v := nI 0) (q := 29) (gDec iX11_side_ok 16 rfl) (by decide) rfl ?_
          refine go_puti (q := 32) fX11_54 gft11 (gDec iX11_side_ok 17 rfl) rfl (by decide) rfl rfl rfl rfl ?_
          refine go_aload_n (q := 33) (gDec iX11_side_ok 18 rfl) rfl rfl rfl ?_
          refine go_geti (q := 36) fX11_54 (gDec iX11_side_ok 19 rfl) rfl (by decide) rfl ?_
          refine go_top (v' := nI 0) rfl ?_
          refine go_if_le (t := 41) (q := 39) (gDec iX11_side_ok 20 rfl) (by decide) rfl (fun c36 => ?_) (fun c36 => False.elim (c36 (by decide)))
          refine go_iconst (v := nI 2) (q := 42) (gDec iX11_side_ok 23 rfl) (by decide) rfl ?_
          refine go_iload_n (q := 43) (gDec iX11_side_ok 24 rfl) rfl rfl rfl ?_
          refine go_imulN (c := 2 * i) (q := 44) (gDec iX11_side_ok 25 rfl) rfl rfl ?_
          refine go_iload_n (q := 45) (gDec iX11_side_ok 26 rfl) rfl rfl rfl ?_
          refine go_iaddN (c := 2 * i + j) (q := 46) (gDec iX11_side_ok 27 rfl) rfl rfl ?_
          refine go_istore (q := 48) (gDec iX11_side_ok 28 rfl) (by decide) rfl ?_
          refine go_aload_n (q := 49) (gDec iX11_side_ok 29 rfl) rfl rfl rfl ?_
          refine go_iload (q := 51) (gDec iX11_side_ok 30 rfl) rfl rfl ?_
          refine go_callV (n2 := 0) (q := 54) kX11_138 (ctX11_followed (b := 2 * i + j) hC (gMRt hM) (by omega)) (gDec iX11_side_ok 31 rfl) rfl rfl (by decide) rfl rfl rfl (Nat.le_of_ble_eq_true rfl) rfl (gFit_rm (by decide) (by decide)) rfl ?_
          refine go_top (v' := nI f) (by rw [hf]; rfl) ?_
          refine go_istore (q := 56) (gDec iX11_side_ok 32 rfl) (by decide) rfl ?_
          refine go_iload_n (q := 57) (gDec iX11_side_ok 33 rfl) rfl rfl rfl ?_
          refine go_if_ne (t := 69) (q := 60) (gDec iX11_side_ok 34 rfl) (by decide) rfl (fun c57 => ?_) (fun c57 => False.elim (absurd c57 (by decide)))
          refine go_iload_n (q := 70) (gDec iX11_side_ok 39 rfl) rfl rfl rfl ?_
          refine go_iconst (v := nI 3) (q := 71) (gDec iX11_side_ok 40 rfl) (by decide) rfl ?_
          refine go_icmp_ne (t := 83) (q := 74) (gDec iX11_side_ok 41 rfl) (by decide) rfl (fun c71 => ?_) (fun c71 => False.elim (absurd c71 (by decide)))
          refine go_iload (q := 85) (gDec iX11_side_ok 46 rfl) rfl rfl ?_
          refine go_if_ge (t := 92) (q := 88) (gDec iX11_side_ok 47 rfl) (by decide) rfl (fun c85 => ?_) (fun c85 => False.elim (c85 (nI_pos' (by omega))))
          refine go_iload_n (q := 93) (gDec iX11_side_ok 50 rfl) rfl rfl rfl ?_
          refine go_iconst (v := nI 1) (q := 94) (gDec iX11_side_ok 51 rfl) (by decide) rfl ?_
          refine go_icmp_ne (t := 104) (q := 97) (gDec iX11_side_ok 52 rfl) (by decide) rfl (fun c94 => False.elim (c94 rfl)) (fun c94 => ?_)
          refine go_iload (q := 99) (gDec iX11_side_ok 53 rfl) rfl rfl ?_
          refine go_iconst (v := nI 2) (q := 100) (gDec iX11_side_ok 54 rfl) (by decide) rfl ?_
          refine go_idiv (q := 101) (gDec iX11_side_ok 55 rfl) (by decide) rfl ?_
          refine go_goto (t := 108) (gDec iX11_side_ok 56 rfl) (by decide) ?_
          exact go_ireturn (gDec iX11_side_ok 60 rfl) rfl rfl (by rw [nI_div2'' (by omega)]; rfl) rfl (by decide)
      · rw [if_neg (by decide), if_neg (by decide), if_pos (show nI 2 = 2 from rfl)]
        cases hf : gLe τ (2 * i + j) with
        | none =>
          refine go_aload_n (q := 1) (gDec iX11_side_ok 0 rfl) rfl rfl rfl ?_
          refine go_aload_n (q := 2) (gDec iX11_side_ok 1 rfl) rfl rfl rfl ?_
          refine go_iload_n (q := 3) (gDec iX11_side_ok 2 rfl) rfl rfl rfl ?_
          refine go_iload_n (q := 4) (gDec iX11_side_ok 3 rfl) rfl rfl rfl ?_
          refine go_callV (n2 := 0) (q := 7) kX11_144 (ctX11_isSide (τ := τ) hW hM) (gDec iX11_side_ok 4 rfl) rfl rfl (by decide) rfl rfl rfl (Nat.le_of_ble_eq_true rfl) rfl (gFit_rm (by decide) (by decide)) rfl ?_
          refine go_top (v' := 1) (if_pos h1) ?_
          refine go_if_ne (t := 14) (q := 10) (gDec iX11_side_ok 5 rfl) (by decide) rfl (fun c7 => ?_) (fun c7 => False.elim (absurd c7 (by decide)))
          refine go_iload_n (q := 15) (gDec iX11_side_ok 8 rfl) rfl rfl rfl ?_
          refine go_i2l (q := 16) (gDec iX11_side_ok 9 rfl) rfl ?_
          refine go_iconst (v := nI 0) (q := 17) (gDec iX11_side_ok 10 rfl) (by decide) rfl ?_
          refine go_iconst (v := nI 3) (q := 18) (gDec iX11_side_ok 11 rfl) (by decide) rfl ?_
          refine go_callS (n2 := 0) (q := 21) kX11_57 ctX11_in (gDec iX11_side_ok 12 rfl) rfl rfl (Nat.le_of_ble_eq_true rfl) rfl (gFit_rm (by decide) (by decide)) rfl ?_
          refine go_top (v' := 1) (gWi_t (by (try rw [i2l_toInt]); exact h2)) ?_
          refine go_if_ne (t := 28) (q := 24) (gDec iX11_side_ok 13 rfl) (by decide) rfl (fun c21 => ?_) (fun c21 => False.elim (absurd c21 (by decide)))
          refine go_iconst (v := nI 0) (q := 29) (gDec iX11_side_ok 16 rfl) (by decide) rfl ?_
          refine go_puti (q := 32) fX11_54 gft11 (gDec iX11_side_ok 17 rfl) rfl (by decide) rfl rfl rfl rfl ?_
          refine go_aload_n (q := 33) (gDec iX11_side_ok 18 rfl) rfl rfl rfl ?_
          refine go_geti (q := 36) fX11_54 (gDec iX11_side_ok 19 rfl) rfl (by decide) rfl ?_
          refine go_top (v' := nI 0) rfl ?_
          refine go_if_le (t := 41) (q := 39) (gDec iX11_side_ok 20 rfl) (by decide) rfl (fun c36 => ?_) (fun c36 => False.elim (c36 (by decide)))
          refine go_iconst (v := nI 2) (q := 42) (gDec iX11_side_ok 23 rfl) (by decide) rfl ?_
          refine go_iload_n (q := 43) (gDec iX11_side_ok 24 rfl) rfl rfl rfl ?_
          refine go_imulN (c := 2 * i) (q := 44) (gDec iX11_side_ok 25 rfl) rfl rfl ?_
          refine go_iload_n (q := 45) (gDec iX11_side_ok 26 rfl) rfl rfl rfl ?_
          refine go_iaddN (c := 2 * i + j) (q := 46) (gDec iX11_side_ok 27 rfl) rfl rfl ?_
          refine go_istore (q := 48) (gDec iX11_side_ok 28 rfl) (by decide) rfl ?_
          refine go_aload_n (q := 49) (gDec iX11_side_ok 29 rfl) rfl rfl rfl ?_
          refine go_iload (q := 51) (gDec iX11_side_ok 30 rfl) rfl rfl ?_
          refine go_callV (n2 := 0) (q := 54) kX11_138 (ctX11_followed (b := 2 * i + j) hC (gMRt hM) (by omega)) (gDec iX11_side_ok 31 rfl) rfl rfl (by decide) rfl rfl rfl (Nat.le_of_ble_eq_true rfl) rfl (gFit_rm (by decide) (by decide)) rfl ?_
          refine go_top (v' := -1) (by rw [hf]; rfl) ?_
          refine go_istore (q := 56) (gDec iX11_side_ok 32 rfl) (by decide) rfl ?_
          refine go_iload_n (q := 57) (gDec iX11_side_ok 33 rfl) rfl rfl rfl ?_
          refine go_if_ne (t := 69) (q := 60) (gDec iX11_side_ok 34 rfl) (by decide) rfl (fun c57 => ?_) (fun c57 => False.elim (absurd c57 (by decide)))
          refine go_iload_n (q := 70) (gDec iX11_side_ok 39 rfl) rfl rfl rfl ?_
          refine go_iconst (v := nI 3) (q := 71) (gDec iX11_side_ok 40 rfl) (by decide) rfl ?_
          refine go_icmp_ne (t := 83) (q := 74) (gDec iX11_side_ok 41 rfl) (by decide) rfl (fun c71 => ?_) (fun c71 => False.elim (absurd c71 (by decide)))
          refine go_iload (q := 85) (gDec iX11_side_ok 46 rfl) rfl rfl ?_
          refine go_if_ge (t := 92) (q := 88) (gDec iX11_side_ok 47 rfl) (by decide) rfl (fun c85 => False.elim (absurd c85 (by decide))) (fun c85 => ?_)
          refine go_iconst (v := (-1)) (q := 89) (gDec iX11_side_ok 48 rfl) (by decide) rfl ?_
          refine go_goto (t := 108) (gDec iX11_side_ok 49 rfl) (by decide) ?_
          exact go_ireturn (gDec iX11_side_ok 60 rfl) rfl rfl rfl rfl (by decide)
        | some f =>
          have hf2 := hC.lw.1 _ f (show 2 * i + j < 2 * gNg τ by omega) hf
          refine go_aload_n (q := 1) (gDec iX11_side_ok 0 rfl) rfl rfl rfl ?_
          refine go_aload_n (q := 2) (gDec iX11_side_ok 1 rfl) rfl rfl rfl ?_
          refine go_iload_n (q := 3) (gDec iX11_side_ok 2 rfl) rfl rfl rfl ?_
          refine go_iload_n (q := 4) (gDec iX11_side_ok 3 rfl) rfl rfl rfl ?_
          refine go_callV (n2 := 0) (q := 7) kX11_144 (ctX11_isSide (τ := τ) hW hM) (gDec iX11_side_ok 4 rfl) rfl rfl (by decide) rfl rfl rfl (Nat.le_of_ble_eq_true rfl) rfl (gFit_rm (by decide) (by decide)) rfl ?_
          refine go_top (v' := 1) (if_pos h1) ?_
          refine go_if_ne (t := 14) (q := 10) (gDec iX11_side_ok 5 rfl) (by decide) rfl (fun c7 => ?_) (fun c7 => False.elim (absurd c7 (by decide)))
          refine go_iload_n (q := 15) (gDec iX11_side_ok 8 rfl) rfl rfl rfl ?_
          refine go_i2l (q := 16) (gDec iX11_side_ok 9 rfl) rfl ?_
          refine go_iconst (v := nI 0) (q := 17) (gDec iX11_side_ok 10 rfl) (by decide) rfl ?_
          refine go_iconst (v := nI 3) (q := 18) (gDec iX11_side_ok 11 rfl) (by decide) rfl ?_
          refine go_callS (n2 := 0) (q := 21) kX11_57 ctX11_in (gDec iX11_side_ok 12 rfl) rfl rfl (Nat.le_of_ble_eq_true rfl) rfl (gFit_rm (by decide) (by decide)) rfl ?_
          refine go_top (v' := 1) (gWi_t (by (try rw [i2l_toInt]); exact h2)) ?_
          refine go_if_ne (t := 28) (q := 24) (gDec iX11_side_ok 13 rfl) (by decide) rfl (fun c21 => ?_) (fun c21 => False.elim (absurd c21 (by decide)))
          refine go_iconst (v := nI 0) (q := 29) (gDec iX11_side_ok 16 rfl) (by decide) rfl ?_
          refine go_puti (q := 32) fX11_54 gft11 (gDec iX11_side_ok 17 rfl) rfl (by decide) rfl rfl rfl rfl ?_
          refine go_aload_n (q := 33) (gDec iX11_side_ok 18 rfl) rfl rfl rfl ?_
          refine go_geti (q := 36) fX11_54 (gDec iX11_side_ok 19 rfl) rfl (by decide) rfl ?_
          refine go_top (v' := nI 0) rfl ?_
          refine go_if_le (t := 41) (q := 39) (gDec iX11_side_ok 20 rfl) (by decide) rfl (fun c36 => ?_) (fun c36 => False.elim (c36 (by decide)))
          refine go_iconst (v := nI 2) (q := 42) (gDec iX11_side_ok 23 rfl) (by decide) rfl ?_
          refine go_iload_n (q := 43) (gDec iX11_side_ok 24 rfl) rfl rfl rfl ?_
          refine go_imulN (c := 2 * i) (q := 44) (gDec iX11_side_ok 25 rfl) rfl rfl ?_
          refine go_iload_n (q := 45) (gDec iX11_side_ok 26 rfl) rfl rfl rfl ?_
          refine go_iaddN (c := 2 * i + j) (q := 46) (gDec iX11_side_ok 27 rfl) rfl rfl ?_
          refine go_istore (q := 48) (gDec iX11_side_ok 28 rfl) (by decide) rfl ?_
          refine go_aload_n (q := 49) (gDec iX11_side_ok 29 rfl) rfl rfl rfl ?_
          refine go_iload (q := 51) (gDec iX11_side_ok 30 rfl) rfl rfl ?_
          refine go_callV (n2 := 0) (q := 54) kX11_138 (ctX11_followed (b := 2 * i + j) hC (gMRt hM) (by omega)) (gDec iX11_side_ok 31 rfl) rfl rfl (by decide) rfl rfl rfl (Nat.le_of_ble_eq_true rfl) rfl (gFit_rm (by decide) (by decide)) rfl ?_
          refine go_top (v' := nI f) (by rw [hf]; rfl) ?_
          refine go_istore (q := 56) (gDec iX11_side_ok 32 rfl) (by decide) rfl ?_
          refine go_iload_n (q := 57) (gDec iX11_side_ok 33 rfl) rfl rfl rfl ?_
          refine go_if_ne (t := 69) (q := 60) (gDec iX11_side_ok 34 rfl) (by decide) rfl (fun c57 => ?_) (fun c57 => False.elim (absurd c57 (by decide)))
          refine go_iload_n (q := 70) (gDec iX11_side_ok 39 rfl) rfl rfl rfl ?_
          refine go_iconst (v := nI 3) (q := 71) (gDec iX11_side_ok 40 rfl) (by decide) rfl ?_
          refine go_icmp_ne (t := 83) (q := 74) (gDec iX11_side_ok 41 rfl) (by decide) rfl (fun c71 => ?_) (fun c71 => False.elim (absurd c71 (by decide)))
          refine go_iload (q := 85) (gDec iX11_side_ok 46 rfl) rfl rfl ?_
          refine go_if_ge (t := 92) (q := 88) (gDec iX11_side_ok 47 rfl) (by decide) rfl (fun c85 => ?_) (fun c85 => False.elim (c85 (nI_pos' (by omega))))
          refine go_iload_n (q := 93) (gDec iX11_side_ok 50 rfl) rfl rfl rfl ?_
          refine go_iconst (v := nI 1) (q := 94) (gDec iX11_side_ok 51 rfl) (by decide) rfl ?_
          refine go_icmp_ne (t := 104) (q := 97) (gDec iX11_side_ok 52 rfl) (by decide) rfl (fun c94 => ?_) (fun c94 => False.elim (absurd c94 (by decide)))
          refine go_iload (q := 106) (gDec iX11_side_ok 57 rfl) rfl rfl ?_
          refine go_iconst (v := nI 2) (q := 107) (gDec iX11_side_ok 58 rfl) (by decide) rfl ?_
          refine go_irem (q := 108) (gDec iX11_side_ok 59 rfl) (by decide) rfl ?_
          exact go_ireturn (gDec iX11_side_ok 60 rfl) rfl rfl (by rw [nI_rem2' (by omega)]; rfl) rfl (by decide)
      · rw [if_neg (by decide), if_neg (by decide), if_neg (by decide)]
        refine go_aload_n (q := 1) (gDec iX11_side_ok 0 rfl) rfl rfl rfl ?_
        refine go_aload_n (q := 2) (gDec iX11_side_ok 1 rfl) rfl rfl rfl ?_
        refine go_iload_n (q := 3) (gDec iX11_side_ok 2 rfl) rfl rfl rfl ?_
        refine go_iload_n (q := 4) (gDec iX11_side_ok 3 rfl) rfl rfl rfl ?_
        refine go_callV (n2 := 0) (q := 7) kX11_144 (ctX11_isSide (τ := τ) hW hM) (gDec iX11_side_ok 4 rfl) rfl rfl (by decide) rfl rfl rfl (Nat.le_of_ble_eq_true rfl) rfl (gFit_rm (by decide) (by decide)) rfl ?_
        refine go_top (v' := 1) (if_pos h1) ?_
        refine go_if_ne (t := 14) (q := 10) (gDec iX11_side_ok 5 rfl) (by decide) rfl (fun c7 => ?_) (fun c7 => False.elim (absurd c7 (by decide)))
        refine go_iload_n (q := 15) (gDec iX11_side_ok 8 rfl) rfl rfl rfl ?_
        refine go_i2l (q := 16) (gDec iX11_side_ok 9 rfl) rfl ?_
        refine go_iconst (v := nI 0) (q := 17) (gDec iX11_side_ok 10 rfl) (by decide) rfl ?_
        refine go_iconst (v := nI 3) (q := 18) (gDec iX11_side_ok 11 rfl) (by decide) rfl ?_
        refine go_callS (n2 := 0) (q := 21) kX11_57 ctX11_in (gDec iX11_side_ok 12 rfl) rfl rfl (Nat.le_of_ble_eq_true rfl) rfl (gFit_rm (by decide) (by decide)) rfl ?_
        refine go_top (v' := 1) (gWi_t (by (try rw [i2l_toInt]); exact h2)) ?_
        refine go_if_ne (t := 28) (q := 24) (gDec iX11_side_ok 13 rfl) (by decide) rfl (fun c21 => ?_) (fun c21 => False.elim (absurd c21 (by decide)))
        refine go_iconst (v := nI 0) (q := 29) (gDec iX11_side_ok 16 rfl) (by decide) rfl ?_
        refine go_puti (q := 32) fX11_54 gft11 (gDec iX11_side_ok 17 rfl) rfl (by decide) rfl rfl rfl rfl ?_
        refine go_aload_n (q := 33) (gDec iX11_side_ok 18 rfl) rfl rfl rfl ?_
        refine go_geti (q := 36) fX11_54 (gDec iX11_side_ok 19 rfl) rfl (by decide) rfl ?_
        refine go_top (v' := nI 0) rfl ?_
        refine go_if_le (t := 41) (q := 39) (gDec iX11_side_ok 20 rfl) (by decide) rfl (fun c36 => ?_) (fun c36 => False.elim (c36 (by decide)))
        refine go_iconst (v := nI 2) (q := 42) (gDec iX11_side_ok 23 rfl) (by decide) rfl ?_
        refine go_iload_n (q := 43) (gDec iX11_side_ok 24 rfl) rfl rfl rfl ?_
        refine go_imulN (c := 2 * i) (q := 44) (gDec iX11_side_ok 25 rfl) rfl rfl ?_
        refine go_iload_n (q := 45) (gDec iX11_side_ok 26 rfl) rfl rfl rfl ?_
        refine go_iaddN (c := 2 * i + j) (q := 46) (gDec iX11_side_ok 27 rfl) rfl rfl ?_
        refine go_istore (q := 48) (gDec iX11_side_ok 28 rfl) (by decide) rfl ?_
        refine go_aload_n (q := 49) (gDec iX11_side_ok 29 rfl) rfl rfl rfl ?_
        refine go_iload (q := 51) (gDec iX11_side_ok 30 rfl) rfl rfl ?_
        refine go_callV (n2 := 0) (q := 54) kX11_138 (ctX11_followed (b := 2 * i + j) hC (gMRt hM) (by omega)) (gDec iX11_side_ok 31 rfl) rfl rfl (by decide) rfl rfl rfl (Nat.le_of_ble_eq_true rfl) rfl (gFit_rm (by decide) (by decide)) rfl ?_
        refine go_istore (q := 56) (gDec iX11_side_ok 32 rfl) (by decide) rfl ?_
        refine go_iload_n (q := 57) (gDec iX11_side_ok 33 rfl) rfl rfl rfl ?_
        refine go_if_ne (t := 69) (q := 60) (gDec iX11_side_ok 34 rfl) (by decide) rfl (fun c57 => ?_) (fun c57 => False.elim (absurd c57 (by decide)))
        refine go_iload_n (q := 70) (gDec iX11_side_ok 39 rfl) rfl rfl rfl ?_
        refine go_iconst (v := nI 3) (q := 71) (gDec iX11_side_ok 40 rfl) (by decide) rfl ?_
        refine go_icmp_ne (t := 83) (q := 74) (gDec iX11_side_ok 41 rfl) (by decide) rfl (fun c71 => False.elim (c71 rfl)) (fun c71 => ?_)
        refine go_aload_n (q := 75) (gDec iX11_side_ok 42 rfl) rfl rfl rfl ?_
        refine go_iload (q := 77) (gDec iX11_side_ok 43 rfl) rfl rfl ?_
        refine go_callV (n2 := 0) (q := 80) kX11_150 (ctX11_rulesOf (b := 2 * i + j) hC (gMRt hM) (by omega)) (gDec iX11_side_ok 44 rfl) rfl rfl (by decide) rfl rfl rfl (Nat.le_of_ble_eq_true rfl) rfl (gFit_rm (by decide) (by decide)) rfl ?_
        refine go_goto (t := 108) (gDec iX11_side_ok 45 rfl) (by decide) ?_
        exact go_ireturn (gDec iX11_side_ok 60 rfl) rfl rfl rfl rfl (by decide)
    · rw [if_neg h2]
      refine go_aload_n (q := 1) (gDec iX11_side_ok 0 rfl) rfl rfl rfl ?_
      refine go_aload_n (q := 2) (gDec iX11_side_ok 1 rfl) rfl rfl rfl ?_
      refine go_iload_n (q := 3) (gDec iX11_side_ok 2 rfl) rfl rfl rfl ?_
      refine go_iload_n (q := 4) (gDec iX11_side_ok 3 rfl) rfl rfl rfl ?_
      refine go_callV (n2 := 0) (q := 7) kX11_144 (ctX11_isSide (τ := τ) hW hM) (gDec iX11_side_ok 4 rfl) rfl rfl (by decide) rfl rfl rfl (Nat.le_of_ble_eq_true rfl) rfl (gFit_rm (by decide) (by decide)) rfl ?_
      refine go_top (v' := 1) (if_pos h1) ?_
      refine go_if_ne (t := 14) (q := 10) (gDec iX11_side_ok 5 rfl) (by decide) rfl (fun c7 => ?_) (fun c7 => False.elim (absurd c7 (by decide)))
      refine go_iload_n (q := 15) (gDec iX11_side_ok 8 rfl) rfl rfl rfl ?_
      refine go_i2l (q := 16) (gDec iX11_side_ok 9 rfl) rfl ?_
      refine go_iconst (v := nI 0) (q := 17) (gDec iX11_side_ok 10 rfl) (by decide) rfl ?_
      refine go_iconst (v := nI 3) (q := 18) (gDec iX11_side_ok 11 rfl) (by decide) rfl ?_
      refine go_callS (n2 := 0) (q := 21) kX11_57 ctX11_in (gDec iX11_side_ok 12 rfl) rfl rfl (Nat.le_of_ble_eq_true rfl) rfl (gFit_rm (by decide) (by decide)) rfl ?_
      refine go_top (v' := 0) (gWi_f (by (try rw [i2l_toInt]); exact h2)) ?_
      refine go_if_ne (t := 28) (q := 24) (gDec iX11_side_ok 13 rfl) (by decide) rfl (fun c21 => False.elim (c21 rfl)) (fun c21 => ?_)
      refine go_iconst (v := nI 2) (q := 25) (gDec iX11_side_ok 14 rfl) (by decide) rfl ?_
      refine go_goto (t := 29) (gDec iX11_side_ok 15 rfl) (by decide) ?_
      refine go_puti (q := 32) fX11_54 gft11 (gDec iX11_side_ok 17 rfl) rfl (by decide) rfl rfl rfl rfl ?_
      refine go_aload_n (q := 33) (gDec iX11_side_ok 18 rfl) rfl rfl rfl ?_
      refine go_geti (q := 36) fX11_54 (gDec iX11_side_ok 19 rfl) rfl (by decide) rfl ?_
      refine go_top (v' := nI 2) rfl ?_
      refine go_if_le (t := 41) (q := 39) (gDec iX11_side_ok 20 rfl) (by decide) rfl (fun c36 => False.elim (absurd c36 (by decide))) (fun c36 => ?_)
      refine go_iconst (v := nI 0) (q := 40) (gDec iX11_side_ok 21 rfl) (by decide) rfl ?_
      exact go_ireturn (gDec iX11_side_ok 22 rfl) rfl rfl rfl (congrArg (gPut σ 376 5) xc_OA_A) (by decide)
  · rw [show fSide τ g s w = _ from if_neg h1]
    refine go_aload_n (q := 1) (gDec iX11_side_ok 0 rfl) rfl rfl rfl ?_
    refine go_aload_n (q := 2) (gDec iX11_side_ok 1 rfl) rfl rfl rfl ?_
    refine go_iload_n (q := 3) (gDec iX11_side_ok 2 rfl) rfl rfl rfl ?_
    refine go_iload_n (q := 4) (gDec iX11_side_ok 3 rfl) rfl rfl rfl ?_
    refine go_callV (n2 := 0) (q := 7) kX11_144 (ctX11_isSide (τ := τ) hW hM) (gDec iX11_side_ok 4 rfl) rfl rfl (by decide) rfl rfl rfl (Nat.le_of_ble_eq_true rfl) rfl (gFit_rm (by decide) (by decide)) rfl ?_
    refine go_top (v' := 0) (if_neg h1) ?_
    refine go_if_ne (t := 14) (q := 10) (gDec iX11_side_ok 5 rfl) (by decide) rfl (fun c7 => False.elim (c7 rfl)) (fun c7 => ?_)
    refine go_iconst (v := nI 1) (q := 11) (gDec iX11_side_ok 6 rfl) (by decide) rfl ?_
    refine go_goto (t := 29) (gDec iX11_side_ok 7 rfl) (by decide) ?_
    refine go_puti (q := 32) fX11_54 gft11 (gDec iX11_side_ok 17 rfl) rfl (by decide) rfl rfl rfl rfl ?_
    refine go_aload_n (q := 33) (gDec iX11_side_ok 18 rfl) rfl rfl rfl ?_
    refine go_geti (q := 36) fX11_54 (gDec iX11_side_ok 19 rfl) rfl (by decide) rfl ?_
    refine go_top (v' := nI 1) rfl ?_
    refine go_if_le (t := 41) (q := 39) (gDec iX11_side_ok 20 rfl) (by decide) rfl (fun c36 => False.elim (absurd c36 (by decide))) (fun c36 => ?_)
    refine go_iconst (v := nI 0) (q := 40) (gDec iX11_side_ok 21 rfl) (by decide) rfl ?_
    exact go_ireturn (gDec iX11_side_ok 22 rfl) rfl rfl rfl (congrArg (gPut σ 376 5) xc_OA_O) (by decide)

theorem gLoop_add {α : Type} {s : Nat → α → α} : ∀ (m n i : Nat) (a : α), gLoop s i (m + n) a = gLoop s (i + m) n (gLoop s i m a)
  | 0, n, i, a => by rw [Nat.zero_add, Nat.add_zero]; rfl
  | m + 1, n, i, a => by
    rw [show m + 1 + n = (m + n) + 1 by omega]
    show gLoop s (i + 1) (m + n) (s i a) = _
    rw [gLoop_add m n (i + 1), show i + 1 + m = i + (m + 1) by omega]
    rfl
theorem gLoop_id {α : Type} {s : Nat → α → α} : ∀ (m i : Nat) (a : α), (∀ k, i ≤ k → k < i + m → ∀ b, s k b = b) → gLoop s i m a = a
  | 0, _, _, _ => rfl
  | m + 1, i, a, h => by
    show gLoop s (i + 1) m (s i a) = a
    rw [h i (Nat.le_refl _) (by omega)]
    exact gLoop_id m (i + 1) a (fun k h1 h2 b => h k (by omega) (by omega) b)
theorem gLoop_congr {α : Type} {s t : Nat → α → α} : ∀ (m i : Nat) (a : α), (∀ k, i ≤ k → k < i + m → ∀ b, s k b = t k b) → gLoop s i m a = gLoop t i m a
  | 0, _, _, _ => rfl
  | m + 1, i, a, h => by
    show gLoop s (i + 1) m (s i a) = gLoop t (i + 1) m (t i a)
    rw [h i (Nat.le_refl _) (by omega)]
    exact gLoop_congr m (i + 1) _ (fun k h1 h2 b => h k (by omega) (by omega) b)
def gFoS (τ : gST) (G : Nat) (k : Nat) (a : Int32) : Int32 := if k = G then a else a + bI (gLd (gLe τ) G 49 (some k))
theorem gFol_eq {τ : gST} {G : Nat} (hC : gCI τ) (hG : G < 2 * gNg τ) : gFol τ G = gLoop (gFoS τ G) 0 (2 * gNg τ) 0 := by
  have h24 := hC.dw.ng24
  show gLoop (gFoS τ G) 0 48 0 = _
  have h := gLoop_add (s := gFoS τ G) (2 * gNg τ) (48 - 2 * gNg τ) 0 0
  rw [show 2 * gNg τ + (48 - 2 * gNg τ) = 48 by omega] at h
  rw [h]
  refine gLoop_id _ _ _ (fun k h1 h2 b => ?_)
  unfold gFoS
  rw [if_neg (by omega)]
  have h3 : gLd (gLe τ) G 49 (some k) = false := by
    unfold gLd
    rw [gBeq (by omega), hC.lw.2.2 k (by omega) (by omega)]
    rfl
  rw [h3]
  exact Int32.add_zero b

set_option maxHeartbeats 4000000 in
set_option maxRecDepth 100000 in
theorem lpX11_followers {κ : gK} {Z : gZ} {σ τ : gST} {p q : Nat} (hC : gCI τ) (hM : gMR τ (σ.1 377)) (h0 : σ.1 376 5 = 0) (hp : p < gNg τ) (hq : q < 2) : ∀ (m i : Nat) (a : Int32), i + m = 2 * gNg τ → Go κ mX11_followers (gRm 9 0) Z 81 [(0, .ref (κ.2.1 + 376)), (1, .int (nI p)), (2, .int (nI q)), (3, .int (gLoop (gFoS τ (2 * p + q)) i m a)), (4, .int (nI (2 * gNg τ)))] [] σ 0 → Go κ mX11_followers (gRm 9 0) Z 23 [(0, .ref (κ.2.1 + 376)), (1, .int (nI p)), (2, .int (nI q)), (3, .int a), (4, .int (nI i))] [] σ 0 := by
  have hW := hC.dw
  have h24 := hW.ng24
  intro m
  induction m with
  | zero =>
    intro i a hi h
    have hiN : 2 * gNg τ = i := by omega
    subst hiN
    refine go_iload (q := 25) (gDec iX11_followers_ok 14 rfl) rfl rfl ?_
    refine go_iconst (v := nI 2) (q := 26) (gDec iX11_followers_ok 15 rfl) (by decide) rfl ?_
    refine go_aload_n (q := 27) (gDec iX11_followers_ok 16 rfl) rfl rfl rfl ?_
    refine go_getr (r' := 377) (q := 30) fX11_9 (gDec iX11_followers_ok 17 rfl) rfl (by decide) rfl ?_
    refine go_iconst (v := nI 0) (q := 31) (gDec iX11_followers_ok 18 rfl) (by decide) rfl ?_
    refine go_top (v' := nI 0) (rfl) ?_
    refine go_ialdN (q := 32) (gDec iX11_followers_ok 19 rfl) rfl (by decide) (by omega) (by decide) rfl ?_
    refine go_top (v' := nI (gNg τ)) (hM.ng hW) ?_
    refine go_imulN (c := 2 * (gNg τ)) (q := 33) (gDec iX11_followers_ok 20 rfl) rfl rfl ?_
    refine go_icmp_ge (t := 81) (q := 36) (gDec iX11_followers_ok 21 rfl) (by decide) rfl (fun c33 => ?_) (fun c33 => False.elim (c33 (Int32.le_refl _)))
    exact h
  | succ m ih =>
    intro i a hi h
    have ih2 := ih (i + 1) (gFoS τ (2 * p + q) i a) (by omega) h
    by_cases he : i = 2 * p + q
    · skip
      refine go_iload (q := 25) (gDec iX11_followers_ok 14 rfl) rfl rfl ?_
      refine go_iconst (v := nI 2) (q := 26) (gDec iX11_followers_ok 15 rfl) (by decide) rfl ?_
      refine go_aload_n (q := 27) (gDec iX11_followers_ok 16 rfl) rfl rfl rfl ?_
      refine go_getr (r' := 377) (q := 30) fX11_9 (gDec iX11_followers_ok 17 rfl) rfl (by decide) rfl ?_
      refine go_iconst (v := nI 0) (q := 31) (gDec iX11_followers_ok 18 rfl) (by decide) rfl ?_
      refine go_top (v' := nI 0) (rfl) ?_
      refine go_ialdN (q := 32) (gDec iX11_followers_ok 19 rfl) rfl (by decide) (by omega) (by decide) rfl ?_
      refine go_top (v' := nI (gNg τ)) (hM.ng hW) ?_
      refine go_imulN (c := 2 * (gNg τ)) (q := 33) (gDec iX11_followers_ok 20 rfl) rfl rfl ?_
      refine go_icmp_ge (t := 81) (q := 36) (gDec iX11_followers_ok 21 rfl) (by decide) rfl (fun c33 => False.elim (nI_ge (a := i) (b := 2 * gNg τ) (by omega) (by omega) c33)) (fun c33 => ?_)
      refine go_aload_n (q := 37) (gDec iX11_followers_ok 22 rfl) rfl rfl rfl ?_
      refine go_geti (q := 40) fX11_54 (gDec iX11_followers_ok 23 rfl) rfl (by decide) rfl ?_
      refine go_if_ne (t := 81) (q := 43) (gDec iX11_followers_ok 24 rfl) (by decide) rfl (fun c40 => False.elim (c40 h0)) (fun c40 => ?_)
      refine go_iload_n (q := 44) (gDec iX11_followers_ok 25 rfl) rfl rfl rfl ?_
      refine go_iload (q := 46) (gDec iX11_followers_ok 26 rfl) rfl rfl ?_
      refine go_iconst (v := nI 2) (q := 47) (gDec iX11_followers_ok 27 rfl) (by decide) rfl ?_
      refine go_iload_n (q := 48) (gDec iX11_followers_ok 28 rfl) rfl rfl rfl ?_
      refine go_imulN (c := 2 * p) (q := 49) (gDec iX11_followers_ok 29 rfl) rfl rfl ?_
      refine go_iload_n (q := 50) (gDec iX11_followers_ok 30 rfl) rfl rfl rfl ?_
      refine go_iaddN (c := 2 * p + q) (q := 51) (gDec iX11_followers_ok 31 rfl) rfl rfl ?_
      refine go_icmp_eq (t := 72) (q := 54) (gDec iX11_followers_ok 32 rfl) (by decide) rfl (fun c51 => ?_) (fun c51 => False.elim (c51 (by rw [he])))
      refine go_iconst (v := 0) (q := 73) (gDec iX11_followers_ok 44 rfl) (by decide) rfl ?_
      refine go_iadd (q := 74) (gDec iX11_followers_ok 45 rfl) rfl ?_
      refine go_istore_n (q := 75) (gDec iX11_followers_ok 46 rfl) rfl (by decide) rfl ?_
      refine go_iinc (v := nI (i + 1)) (q := 78) (gDec iX11_followers_ok 47 rfl) rfl (nI_1 _) (by decide) rfl ?_
      refine go_goto (t := 23) (gDec iX11_followers_ok 48 rfl) (by decide) ?_
      rw [show gFoS τ (2 * p + q) i a = (a + 0) from (if_pos he).trans (Int32.add_zero a).symm] at ih2
      refine go_sub (L' := [(0, .ref (κ.2.1 + 376)), (1, .int (nI p)), (2, .int (nI q)), (3, .int (a + 0)), (4, .int (nI (i + 1)))]) ⟨rfl, rfl, rfl, rfl, rfl, trivial⟩ ?_
      exact ih2
    · cases hb : gLd (gLe τ) (2 * p + q) 49 (some i) with
      | true =>
        refine go_iload (q := 25) (gDec iX11_followers_ok 14 rfl) rfl rfl ?_
        refine go_iconst (v := nI 2) (q := 26) (gDec iX11_followers_ok 15 rfl) (by decide) rfl ?_
        refine go_aload_n (q := 27) (gDec iX11_followers_ok 16 rfl) rfl rfl rfl ?_
        refine go_getr (r' := 377) (q := 30) fX11_9 (gDec iX11_followers_ok 17 rfl) rfl (by decide) rfl ?_
        refine go_iconst (v := nI 0) (q := 31) (gDec iX11_followers_ok 18 rfl) (by decide) rfl ?_
        refine go_top (v' := nI 0) (rfl) ?_
        refine go_ialdN (q := 32) (gDec iX11_followers_ok 19 rfl) rfl (by decide) (by omega) (by decide) rfl ?_
        refine go_top (v' := nI (gNg τ)) (hM.ng hW) ?_
        refine go_imulN (c := 2 * (gNg τ)) (q := 33) (gDec iX11_followers_ok 20 rfl) rfl rfl ?_
        refine go_icmp_ge (t := 81) (q := 36) (gDec iX11_followers_ok 21 rfl) (by decide) rfl (fun c33 => False.elim (nI_ge (a := i) (b := 2 * gNg τ) (by omega) (by omega) c33)) (fun c33 => ?_)
        refine go_aload_n (q := 37) (gDec iX11_followers_ok 22 rfl) rfl rfl rfl ?_
        refine go_geti (q := 40) fX11_54 (gDec iX11_followers_ok 23 rfl) rfl (by decide) rfl ?_
        refine go_if_ne (t := 81) (q := 43) (gDec iX11_followers_ok 24 rfl) (by decide) rfl (fun c40 => False.elim (c40 h0)) (fun c40 => ?_)
        refine go_iload_n (q := 44) (gDec iX11_followers_ok 25 rfl) rfl rfl rfl ?_
        refine go_iload (q := 46) (gDec iX11_followers_ok 26 rfl) rfl rfl ?_
        refine go_iconst (v := nI 2) (q := 47) (gDec iX11_followers_ok 27 rfl) (by decide) rfl ?_
        refine go_iload_n (q := 48) (gDec iX11_followers_ok 28 rfl) rfl rfl rfl ?_
        refine go_imulN (c := 2 * p) (q := 49) (gDec iX11_followers_ok 29 rfl) rfl rfl ?_
        refine go_iload_n (q := 50) (gDec iX11_followers_ok 30 rfl) rfl rfl rfl ?_
        refine go_iaddN (c := 2 * p + q) (q := 51) (gDec iX11_followers_ok 31 rfl) rfl rfl ?_
        refine go_icmp_eq (t := 72) (q := 54) (gDec iX11_followers_ok 32 rfl) (by decide) rfl (fun c51 => False.elim (he ((nI_eq (by omega) (by omega)).mp c51))) (fun c51 => ?_)
        refine go_aload_n (q := 55) (gDec iX11_followers_ok 33 rfl) rfl rfl rfl ?_
        refine go_iload (q := 57) (gDec iX11_followers_ok 34 rfl) rfl rfl ?_
        refine go_iconst (v := nI 2) (q := 58) (gDec iX11_followers_ok 35 rfl) (by decide) rfl ?_
        refine go_iload_n (q := 59) (gDec iX11_followers_ok 36 rfl) rfl rfl rfl ?_
        refine go_imulN (c := 2 * p) (q := 60) (gDec iX11_followers_ok 37 rfl) rfl rfl ?_
        refine go_iload_n (q := 61) (gDec iX11_followers_ok 38 rfl) rfl rfl rfl ?_
        refine go_iaddN (c := 2 * p + q) (q := 62) (gDec iX11_followers_ok 39 rfl) rfl rfl ?_
        refine go_callV (n2 := 0) (q := 65) kX11_147 (ctX11_leadsTo (b := i) (t := 2 * p + q) hC hM (by omega) (by omega)) (gDec iX11_followers_ok 40 rfl) rfl rfl (by decide) rfl rfl rfl (Nat.le_of_ble_eq_true rfl) rfl (gFit_rm (by decide) (by decide)) rfl ?_
        refine go_top (v' := 1) (by rw [hb]; rfl) ?_
        refine go_if_eq (t := 72) (q := 68) (gDec iX11_followers_ok 41 rfl) (by decide) rfl (fun c65 => False.elim (absurd c65 (by decide))) (fun c65 => ?_)
        refine go_iconst (v := 1) (q := 69) (gDec iX11_followers_ok 42 rfl) (by decide) rfl ?_
        refine go_goto (t := 73) (gDec iX11_followers_ok 43 rfl) (by decide) ?_
        refine go_iadd (q := 74) (gDec iX11_followers_ok 45 rfl) rfl ?_
        refine go_istore_n (q := 75) (gDec iX11_followers_ok 46 rfl) rfl (by decide) rfl ?_
        refine go_iinc (v := nI (i + 1)) (q := 78) (gDec iX11_followers_ok 47 rfl) rfl (nI_1 _) (by decide) rfl ?_
        refine go_goto (t := 23) (gDec iX11_followers_ok 48 rfl) (by decide) ?_
        rw [show gFoS τ (2 * p + q) i a = (a + 1) from (if_neg he).trans (by rw [hb]; rfl)] at ih2
        refine go_sub (L' := [(0, .ref (κ.2.1 + 376)), (1, .int (nI p)), (2, .int (nI q)), (3, .int (a + 1)), (4, .int (nI (i + 1)))]) ⟨rfl, rfl, rfl, rfl, rfl, trivial⟩ ?_
        exact ih2
      | false =>
        refine go_iload (q := 25) (gDec iX11_followers_ok 14 rfl) rfl rfl ?_
        refine go_iconst (v := nI 2) (q := 26) (gDec iX11_followers_ok 15 rfl) (by decide) rfl ?_
        refine go_aload_n (q := 27) (gDec iX11_followers_ok 16 rfl) rfl rfl rfl ?_
        refine go_getr (r' := 377) (q := 30) fX11_9 (gDec iX11_followers_ok 17 rfl) rfl (by decide) rfl ?_
        refine go_iconst (v := nI 0) (q := 31) (gDec iX11_followers_ok 18 rfl) (by decide) rfl ?_
        refine go_top (v' := nI 0) (rfl) ?_
        refine go_ialdN (q := 32) (gDec iX11_followers_ok 19 rfl) rfl (by decide) (by omega) (by decide) rfl ?_
        refine go_top (v' := nI (gNg τ)) (hM.ng hW) ?_
        refine go_imulN (c := 2 * (gNg τ)) (q := 33) (gDec iX11_followers_ok 20 rfl) rfl rfl ?_
        refine go_icmp_ge (t := 81) (q := 36) (gDec iX11_followers_ok 21 rfl) (by decide) rfl (fun c33 => False.elim (nI_ge (a := i) (b := 2 * gNg τ) (by omega) (by omega) c33)) (fun c33 => ?_)
        refine go_aload_n (q := 37) (gDec iX11_followers_ok 22 rfl) rfl rfl rfl ?_
        refine go_geti (q := 40) fX11_54 (gDec iX11_followers_ok 23 rfl) rfl (by decide) rfl ?_
        refine go_if_ne (t := 81) (q := 43) (gDec iX11_followers_ok 24 rfl) (by decide) rfl (fun c40 => False.elim (c40 h0)) (fun c40 => ?_)
        refine go_iload_n (q := 44) (gDec iX11_followers_ok 25 rfl) rfl rfl rfl ?_
        refine go_iload (q := 46) (gDec iX11_followers_ok 26 rfl) rfl rfl ?_
        refine go_iconst (v := nI 2) (q := 47) (gDec iX11_followers_ok 27 rfl) (by decide) rfl ?_
        refine go_iload_n (q := 48) (gDec iX11_followers_ok 28 rfl) rfl rfl rfl ?_
        refine go_imulN (c := 2 * p) (q := 49) (gDec iX11_followers_ok 29 rfl) rfl rfl ?_
        refine go_iload_n (q := 50) (gDec iX11_followers_ok 30 rfl) rfl rfl rfl ?_
        refine go_iaddN (c := 2 * p + q) (q := 51) (gDec iX11_followers_ok 31 rfl) rfl rfl ?_
        refine go_icmp_eq (t := 72) (q := 54) (gDec iX11_followers_ok 32 rfl) (by decide) rfl (fun c51 => False.elim (he ((nI_eq (by omega) (by omega)).mp c51))) (fun c51 => ?_)
        refine go_aload_n (q := 55) (gDec iX11_followers_ok 33 rfl) rfl rfl rfl ?_
        refine go_iload (q := 57) (gDec iX11_followers_ok 34 rfl) rfl rfl ?_
        refine go_iconst (v := nI 2) (q := 58) (gDec iX11_followers_ok 35 rfl) (by decide) rfl ?_
        refine go_iload_n (q := 59) (gDec iX11_followers_ok 36 rfl) rfl rfl rfl ?_
        refine go_imulN (c := 2 * p) (q := 60) (gDec iX11_followers_ok 37 rfl) rfl rfl ?_
        refine go_iload_n (q := 61) (gDec iX11_followers_ok 38 rfl) rfl rfl rfl ?_
        refine go_iaddN (c := 2 * p + q) (q := 62) (gDec iX11_followers_ok 39 rfl) rfl rfl ?_
        refine go_callV (n2 := 0) (q := 65) kX11_147 (ctX11_leadsTo (b := i) (t := 2 * p + q) hC hM (by omega) (by omega)) (gDec iX11_followers_ok 40 rfl) rfl rfl (by decide) rfl rfl rfl (Nat.le_of_ble_eq_true rfl) rfl (gFit_rm (by decide) (by decide)) rfl ?_
        refine go_top (v' := 0) (by rw [hb]; rfl) ?_
        refine go_if_eq (t := 72) (q := 68) (gDec iX11_followers_ok 41 rfl) (by decide) rfl (fun c65 => ?_) (fun c65 => False.elim (c65 rfl))
        refine go_iconst (v := 0) (q := 73) (gDec iX11_followers_ok 44 rfl) (by decide) rfl ?_
        refine go_iadd (q := 74) (gDec iX11_followers_ok 45 rfl) rfl ?_
        refine go_istore_n (q := 75) (gDec iX11_followers_ok 46 rfl) rfl (by decide) rfl ?_
        refine go_iinc (v := nI (i + 1)) (q := 78) (gDec iX11_followers_ok 47 rfl) rfl (nI_1 _) (by decide) rfl ?_
        refine go_goto (t := 23) (gDec iX11_followers_ok 48 rfl) (by decide) ?_
        rw [show gFoS τ (2 * p + q) i a = (a + 0) from (if_neg he).trans (by rw [hb]; rfl)] at ih2
        refine go_sub (L' := [(0, .ref (κ.2.1 + 376)), (1, .int (nI p)), (2, .int (nI q)), (3, .int (a + 0)), (4, .int (nI (i + 1)))]) ⟨rfl, rfl, rfl, rfl, rfl, trivial⟩ ?_
        exact ih2

set_option maxHeartbeats 4000000 in
set_option maxRecDepth 100000 in
theorem ctX11_followers {κ : gK} {σ τ : gST} {g s : Int32} (hC : gCI τ) (hM : gMR τ (σ.1 377)) : gCt κ mX11_followers 9 [.ref (κ.2.1 + 376), .int g, .int s] σ (rI (aI (fFollowers τ g s).1)) (gPut σ 376 5 (xC kO (fFollowers τ g s).1)) 0 := by
  have hW := hC.dw
  have h24 := hW.ng24
  refine ct_of (by decide +kernel) rfl (Nat.le_of_ble_eq_true rfl) rfl ?_
  by_cases h1 : gInS τ g s
  · have hs : fFollowers τ g s = _ := if_pos h1
    rw [hs]
    obtain ⟨i, j, hi, hj, rfl, rfl⟩ := gInS.ex h1
    rw [nA_nI (n := i) (by omega), nA_nI (n := j) (by omega), show i * 2 + j = 2 * i + j by omega, gFol_eq hC (by omega)]
    refine go_aload_n (q := 1) (gDec iX11_followers_ok 0 rfl) rfl rfl rfl ?_
    refine go_aload_n (q := 2) (gDec iX11_followers_ok 1 rfl) rfl rfl rfl ?_
    refine go_iload_n (q := 3) (gDec iX11_followers_ok 2 rfl) rfl rfl rfl ?_
    refine go_iload_n (q := 4) (gDec iX11_followers_ok 3 rfl) rfl rfl rfl ?_
    refine go_callV (n2 := 0) (q := 7) kX11_144 (ctX11_isSide (τ := τ) hW hM) (gDec iX11_followers_ok 4 rfl) rfl rfl (by decide) rfl rfl rfl (Nat.le_of_ble_eq_true rfl) rfl (gFit_rm (by decide) (by decide)) rfl ?_
    refine go_top (v' := 1) (if_pos h1) ?_
    refine go_if_eq (t := 14) (q := 10) (gDec iX11_followers_ok 5 rfl) (by decide) rfl (fun c7 => False.elim (absurd c7 (by decide))) (fun c7 => ?_)
    refine go_iconst (v := nI 0) (q := 11) (gDec iX11_followers_ok 6 rfl) (by decide) rfl ?_
    refine go_goto (t := 15) (gDec iX11_followers_ok 7 rfl) (by decide) ?_
    refine go_puti (q := 18) fX11_54 gft11 (gDec iX11_followers_ok 9 rfl) rfl (by decide) rfl rfl rfl rfl ?_
    refine go_iconst (v := 0) (q := 19) (gDec iX11_followers_ok 10 rfl) (by decide) rfl ?_
    refine go_istore_n (q := 20) (gDec iX11_followers_ok 11 rfl) rfl (by decide) rfl ?_
    refine go_iconst (v := nI 0) (q := 21) (gDec iX11_followers_ok 12 rfl) (by decide) rfl ?_
    refine go_istore (q := 23) (gDec iX11_followers_ok 13 rfl) (by decide) rfl ?_
    refine go_sub (L' := [(0, .ref (κ.2.1 + 376)), (1, .int (nI i)), (2, .int (nI j)), (3, .int 0), (4, .int (nI 0))]) ⟨rfl, rfl, rfl, rfl, rfl, trivial⟩ ?_
    refine lpX11_followers hC (gMRt hM) rfl hi hj (2 * gNg τ) 0 0 (by omega) ?_
    refine go_iload_n (q := 82) (gDec iX11_followers_ok 49 rfl) rfl rfl rfl ?_
    exact go_ireturn (gDec iX11_followers_ok 50 rfl) rfl rfl rfl rfl (by decide)
  · rw [show fFollowers τ g s = _ from if_neg h1]
    by_cases h2 : gNg τ = 0
    · skip
      refine go_aload_n (q := 1) (gDec iX11_followers_ok 0 rfl) rfl rfl rfl ?_
      refine go_aload_n (q := 2) (gDec iX11_followers_ok 1 rfl) rfl rfl rfl ?_
      refine go_iload_n (q := 3) (gDec iX11_followers_ok 2 rfl) rfl rfl rfl ?_
      refine go_iload_n (q := 4) (gDec iX11_followers_ok 3 rfl) rfl rfl rfl ?_
      refine go_callV (n2 := 0) (q := 7) kX11_144 (ctX11_isSide (τ := τ) hW hM) (gDec iX11_followers_ok 4 rfl) rfl rfl (by decide) rfl rfl rfl (Nat.le_of_ble_eq_true rfl) rfl (gFit_rm (by decide) (by decide)) rfl ?_
      refine go_top (v' := 0) (if_neg h1) ?_
      refine go_if_eq (t := 14) (q := 10) (gDec iX11_followers_ok 5 rfl) (by decide) rfl (fun c7 => ?_) (fun c7 => False.elim (c7 rfl))
      refine go_iconst (v := nI 1) (q := 15) (gDec iX11_followers_ok 8 rfl) (by decide) rfl ?_
      refine go_puti (q := 18) fX11_54 gft11 (gDec iX11_followers_ok 9 rfl) rfl (by decide) rfl rfl rfl rfl ?_
      refine go_iconst (v := nI 0) (q := 19) (gDec iX11_followers_ok 10 rfl) (by decide) rfl ?_
      refine go_istore_n (q := 20) (gDec iX11_followers_ok 11 rfl) rfl (by decide) rfl ?_
      refine go_iconst (v := nI 0) (q := 21) (gDec iX11_followers_ok 12 rfl) (by decide) rfl ?_
      refine go_istore (q := 23) (gDec iX11_followers_ok 13 rfl) (by decide) rfl ?_
      refine go_iload (q := 25) (gDec iX11_followers_ok 14 rfl) rfl rfl ?_
      refine go_iconst (v := nI 2) (q := 26) (gDec iX11_followers_ok 15 rfl) (by decide) rfl ?_
      refine go_aload_n (q := 27) (gDec iX11_followers_ok 16 rfl) rfl rfl rfl ?_
      refine go_getr (r' := 377) (q := 30) fX11_9 (gDec iX11_followers_ok 17 rfl) rfl (by decide) rfl ?_
      refine go_iconst (v := nI 0) (q := 31) (gDec iX11_followers_ok 18 rfl) (by decide) rfl ?_
      refine go_top (v' := nI 0) (rfl) ?_
      refine go_ialdN (q := 32) (gDec iX11_followers_ok 19 rfl) rfl (by decide) (by omega) (by decide) rfl ?_
      refine go_top (v' := nI 0) (((gMRt hM).ng hW).trans (by rw [h2])) ?_
      refine go_imulN (c := 2 * 0) (q := 33) (gDec iX11_followers_ok 20 rfl) rfl rfl ?_
      refine go_icmp_ge (t := 81) (q := 36) (gDec iX11_followers_ok 21 rfl) (by decide) rfl (fun c33 => ?_) (fun c33 => False.elim (c33 (by decide)))
      refine go_iload_n (q := 82) (gDec iX11_followers_ok 49 rfl) rfl rfl rfl ?_
      exact go_ireturn (gDec iX11_followers_ok 50 rfl) rfl rfl rfl (congrArg (gPut σ 376 5) xc_O_O) (by decide)
    · skip
      refine go_aload_n (q := 1) (gDec iX11_followers_ok 0 rfl) rfl rfl rfl ?_
      refine go_aload_n (q := 2) (gDec iX11_followers_ok 1 rfl) rfl rfl rfl ?_
      refine go_iload_n (q := 3) (gDec iX11_followers_ok 2 rfl) rfl rfl rfl ?_
      refine go_iload_n (q := 4) (gDec iX11_followers_ok 3 rfl) rfl rfl rfl ?_
      refine go_callV (n2 := 0) (q := 7) kX11_144 (ctX11_isSide (τ := τ) hW hM) (gDec iX11_followers_ok 4 rfl) rfl rfl (by decide) rfl rfl rfl (Nat.le_of_ble_eq_true rfl) rfl (gFit_rm (by decide) (by decide)) rfl ?_
      refine go_top (v' := 0) (if_neg h1) ?_
      refine go_if_eq (t := 14) (q := 10) (gDec iX11_followers_ok 5 rfl) (by decide) rfl (fun c7 => ?_) (fun c7 => False.elim (c7 rfl))
      refine go_iconst (v := nI 1) (q := 15) (gDec iX11_followers_ok 8 rfl) (by decide) rfl ?_
      refine go_puti (q := 18) fX11_54 gft11 (gDec iX11_followers_ok 9 rfl) rfl (by decide) rfl rfl rfl rfl ?_
      refine go_iconst (v := nI 0) (q := 19) (gDec iX11_followers_ok 10 rfl) (by decide) rfl ?_
      refine go_istore_n (q := 20) (gDec iX11_followers_ok 11 rfl) rfl (by decide) rfl ?_
      refine go_iconst (v := nI 0) (q := 21) (gDec iX11_followers_ok 12 rfl) (by decide) rfl ?_
      refine go_istore (q := 23) (gDec iX11_followers_ok 13 rfl) (by decide) rfl ?_
      refine go_iload (q := 25) (gDec iX11_followers_ok 14 rfl) rfl rfl ?_
      refine go_iconst (v := nI 2) (q := 26) (gDec iX11_followers_ok 15 rfl) (by decide) rfl ?_
      refine go_aload_n (q := 27) (gDec iX11_followers_ok 16 rfl) rfl rfl rfl ?_
      refine go_getr (r' := 377) (q := 30) fX11_9 (gDec iX11_followers_ok 17 rfl) rfl (by decide) rfl ?_
      refine go_iconst (v := nI 0) (q := 31) (gDec iX11_followers_ok 18 rfl) (by decide) rfl ?_
      refine go_top (v' := nI 0) (rfl) ?_
      refine go_ialdN (q := 32) (gDec iX11_followers_ok 19 rfl) rfl (by decide) (by omega) (by decide) rfl ?_
      refine go_top (v' := nI (gNg τ)) ((gMRt hM).ng hW) ?_
      refine go_imulN (c := 2 * (gNg τ)) (q := 33) (gDec iX11_followers_ok 20 rfl) rfl rfl ?_
      refine go_icmp_ge (t := 81) (q := 36) (gDec iX11_followers_ok 21 rfl) (by decide) rfl (fun c33 => False.elim (nI_ge (a := 0) (b := 2 * gNg τ) (by omega) (by omega) c33)) (fun c33 => ?_)
      refine go_aload_n (q := 37) (gDec iX11_followers_ok 22 rfl) rfl rfl rfl ?_
      refine go_geti (q := 40) fX11_54 (gDec iX11_followers_ok 23 rfl) rfl (by decide) rfl ?_
      refine go_top (v' := nI 1) rfl ?_
      refine go_if_ne (t := 81) (q := 43) (gDec iX11_followers_ok 24 rfl) (by decide) rfl (fun c40 => ?_) (fun c40 => False.elim (absurd c40 (by decide)))
      refine go_iload_n (q := 82) (gDec iX11_followers_ok 49 rfl) rfl rfl rfl ?_
      exact go_ireturn (gDec iX11_followers_ok 50 rfl) rfl rfl rfl (congrArg (gPut σ 376 5) xc_O_O) (by decide)

set_option maxHeartbeats 4000000 in
set_option maxRecDepth 100000 in
theorem lpX11_advances {κ : gK} {Z : gZ} {σ : gST} {τ : gST} (hC : gCI τ) (hM : gMR τ (σ.1 377)) : ∀ (m i : Nat) (a : Int32), i + m = (gNg τ) → Go κ mX11_advances (gRm 5 0) Z 28 [(0, .ref (κ.2.1 + 376)), (1, .int (gLoop (fun g a => a + gAdv τ g) i m a)), (2, .int (nI (gNg τ)))] [] σ 0 → Go κ mX11_advances (gRm 5 0) Z 4 [(0, .ref (κ.2.1 + 376)), (1, .int a), (2, .int (nI i))] [] σ 0 := by
  have hW := hC.dw
  have h24 := hW.ng24
  intro m
  induction m with
  | zero =>
    intro i a hi h
    have hiN : (gNg τ) = i := by omega
    rw [hiN] at h
    refine go_iload_n (q := 5) (gDec iX11_advances_ok 4 rfl) rfl rfl rfl ?_
    refine go_aload_n (q := 6) (gDec iX11_advances_ok 5 rfl) rfl rfl rfl ?_
    refine go_getr (r' := 377) (q := 9) fX11_9 (gDec iX11_advances_ok 6 rfl) rfl (by decide) rfl ?_
    refine go_iconst (v := nI 0) (q := 10) (gDec iX11_advances_ok 7 rfl) (by decide) rfl ?_
    refine go_top (v' := nI 0) (rfl) ?_
    refine go_ialdN (q := 11) (gDec iX11_advances_ok 8 rfl) rfl (by decide) (by omega) (by decide) rfl ?_
    refine go_top (v' := nI (gNg τ)) (hM.ng hW) ?_
    refine go_icmp_ge (t := 28) (q := 14) (gDec iX11_advances_ok 9 rfl) (by decide) rfl (fun c11 => ?_) (fun c11 => False.elim (c11 (nI_le (a := (gNg τ)) (b := i) (by omega) (by omega))))
    refine go_sub (L' := [(0, .ref (κ.2.1 + 376)), (1, .int a), (2, .int (nI i))]) ⟨rfl, rfl, rfl, trivial⟩ ?_
    exact h
  | succ m ih =>
    intro i a hi h
    refine go_iload_n (q := 5) (gDec iX11_advances_ok 4 rfl) rfl rfl rfl ?_
    refine go_aload_n (q := 6) (gDec iX11_advances_ok 5 rfl) rfl rfl rfl ?_
    refine go_getr (r' := 377) (q := 9) fX11_9 (gDec iX11_advances_ok 6 rfl) rfl (by decide) rfl ?_
    refine go_iconst (v := nI 0) (q := 10) (gDec iX11_advances_ok 7 rfl) (by decide) rfl ?_
    refine go_top (v' := nI 0) (rfl) ?_
    refine go_ialdN (q := 11) (gDec iX11_advances_ok 8 rfl) rfl (by decide) (by omega) (by decide) rfl ?_
    refine go_top (v' := nI (gNg τ)) (hM.ng hW) ?_
    refine go_icmp_ge (t := 28) (q := 14) (gDec iX11_advances_ok 9 rfl) (by decide) rfl (fun c11 => False.elim (nI_ge (a := i) (b := (gNg τ)) (by omega) (by omega) c11)) (fun c11 => ?_)
    refine go_iload_n (q := 15) (gDec iX11_advances_ok 10 rfl) rfl rfl rfl ?_
    refine go_aload_n (q := 16) (gDec iX11_advances_ok 11 rfl) rfl rfl rfl ?_
    refine go_iload_n (q := 17) (gDec iX11_advances_ok 12 rfl) rfl rfl rfl ?_
    refine go_callV (n2 := 0) (q := 20) kX11_129 (ctX11_advance hC hM (by omega)) (gDec iX11_advances_ok 13 rfl) rfl rfl (by decide) rfl rfl rfl (Nat.le_of_ble_eq_true rfl) rfl (gFit_rm (by decide) (by decide)) rfl ?_
    refine go_iadd (q := 21) (gDec iX11_advances_ok 14 rfl) rfl ?_
    refine go_istore_n (q := 22) (gDec iX11_advances_ok 15 rfl) rfl (by decide) rfl ?_
    refine go_iinc (v := nI (i + 1)) (q := 25) (gDec iX11_advances_ok 16 rfl) rfl (nI_1 _) (by decide) rfl ?_
    refine go_goto (t := 4) (gDec iX11_advances_ok 17 rfl) (by decide) ?_
    refine go_sub (L' := [(0, .ref (κ.2.1 + 376)), (1, .int ((fun g a => a + gAdv τ g) i a)), (2, .int (nI (i + 1)))]) ⟨rfl, rfl, rfl, trivial⟩ ?_
    exact ih (i + 1) ((fun g a => a + gAdv τ g) i a) (by omega) h

set_option maxHeartbeats 4000000 in
set_option maxRecDepth 100000 in
theorem ctX11_advances {κ : gK} {σ : gST} {τ : gST} (hC : gCI τ) (hM : gMR τ (σ.1 377)) : gCt κ mX11_advances 5 [.ref (κ.2.1 + 376)] σ (.inl (some (.int (gLoop (fun g a => a + gAdv τ g) 0 (gNg τ) 0)))) σ 0 := by
  refine ct_of (by decide +kernel) rfl (Nat.le_of_ble_eq_true rfl) rfl ?_
  refine go_iconst (v := 0) (q := 1) (gDec iX11_advances_ok 0 rfl) (by decide) rfl ?_
  refine go_istore_n (q := 2) (gDec iX11_advances_ok 1 rfl) rfl (by decide) rfl ?_
  refine go_iconst (v := nI 0) (q := 3) (gDec iX11_advances_ok 2 rfl) (by decide) rfl ?_
  refine go_istore_n (q := 4) (gDec iX11_advances_ok 3 rfl) rfl (by decide) rfl ?_
  refine go_sub (L' := [(0, .ref (κ.2.1 + 376)), (1, .int 0), (2, .int (nI 0))]) ⟨rfl, rfl, rfl, trivial⟩ ?_
  refine lpX11_advances hC hM (gNg τ) 0 0 (by omega) ?_
  refine go_iload_n (q := 29) (gDec iX11_advances_ok 18 rfl) rfl rfl rfl ?_
  exact go_ireturn (gDec iX11_advances_ok 19 rfl) rfl rfl rfl rfl (by decide)

set_option maxHeartbeats 4000000 in
set_option maxRecDepth 100000 in
theorem lpX11_kp2 {κ : gK} {Z : gZ} {σ τ : gST} {g : Nat} (hC : gCI τ) (hM : gMR τ (σ.1 377)) (hg : g < gNg τ) : ∀ (m i : Nat) (a : Int32), i + m = gNg τ → Go κ mX11_kernedPairs (gRm 5 0) Z 49 [(0, .ref (κ.2.1 + 376)), (1, .int (gLoop (fun h a => if gKn τ g h = 0 then a else a + 1) i m a)), (2, .int (nI g)), (3, .int (nI (gNg τ)))] [] σ 0 → Go κ mX11_kernedPairs (gRm 5 0) Z 16 [(0, .ref (κ.2.1 + 376)), (1, .int a), (2, .int (nI g)), (3, .int (nI i))] [] σ 0 := by
  have hW := hC.dw
  have h24 := hW.ng24
  intro m
  induction m with
  | zero =>
    intro i a hi h
    have hiN : gNg τ = i := by omega
    subst hiN
    refine go_iload_n (q := 17) (gDec iX11_kernedPairs_ok 12 rfl) rfl rfl rfl ?_
    refine go_aload_n (q := 18) (gDec iX11_kernedPairs_ok 13 rfl) rfl rfl rfl ?_
    refine go_getr (r' := 377) (q := 21) fX11_9 (gDec iX11_kernedPairs_ok 14 rfl) rfl (by decide) rfl ?_
    refine go_iconst (v := nI 0) (q := 22) (gDec iX11_kernedPairs_ok 15 rfl) (by decide) rfl ?_
    refine go_top (v' := nI 0) (rfl) ?_
    refine go_ialdN (q := 23) (gDec iX11_kernedPairs_ok 16 rfl) rfl (by decide) (by omega) (by decide) rfl ?_
    refine go_top (v' := nI (gNg τ)) (hM.ng hW) ?_
    refine go_icmp_ge (t := 49) (q := 26) (gDec iX11_kernedPairs_ok 17 rfl) (by decide) rfl (fun c23 => ?_) (fun c23 => False.elim (c23 (Int32.le_refl _)))
    exact h
  | succ m ih =>
    intro i a hi h
    have ih2 := ih (i + 1) ((fun h a => if gKn τ g h = 0 then a else a + 1) i a) (by omega) h
    by_cases hk : gKn τ g i = 0
    · skip
      refine go_iload_n (q := 17) (gDec iX11_kernedPairs_ok 12 rfl) rfl rfl rfl ?_
      refine go_aload_n (q := 18) (gDec iX11_kernedPairs_ok 13 rfl) rfl rfl rfl ?_
      refine go_getr (r' := 377) (q := 21) fX11_9 (gDec iX11_kernedPairs_ok 14 rfl) rfl (by decide) rfl ?_
      refine go_iconst (v := nI 0) (q := 22) (gDec iX11_kernedPairs_ok 15 rfl) (by decide) rfl ?_
      refine go_top (v' := nI 0) (rfl) ?_
      refine go_ialdN (q := 23) (gDec iX11_kernedPairs_ok 16 rfl) rfl (by decide) (by omega) (by decide) rfl ?_
      refine go_top (v' := nI (gNg τ)) (hM.ng hW) ?_
      refine go_icmp_ge (t := 49) (q := 26) (gDec iX11_kernedPairs_ok 17 rfl) (by decide) rfl (fun c23 => False.elim (nI_ge (a := i) (b := gNg τ) (by omega) (by omega) c23)) (fun c23 => ?_)
      refine go_iload_n (q := 27) (gDec iX11_kernedPairs_ok 18 rfl) rfl rfl rfl ?_
      refine go_aload_n (q := 28) (gDec iX11_kernedPairs_ok 19 rfl) rfl rfl rfl ?_
      refine go_iload_n (q := 29) (gDec iX11_kernedPairs_ok 20 rfl) rfl rfl rfl ?_
      refine go_iload_n (q := 30) (gDec iX11_kernedPairs_ok 21 rfl) rfl rfl rfl ?_
      refine go_callV (n2 := 0) (q := 33) kX11_172 (ctX11_kernOf (τ := τ) hW hM (by omega) (by omega)) (gDec iX11_kernedPairs_ok 22 rfl) rfl rfl (by decide) rfl rfl rfl (Nat.le_of_ble_eq_true rfl) rfl (gFit_rm (by decide) (by decide)) rfl ?_
      refine go_if_eq (t := 40) (q := 36) (gDec iX11_kernedPairs_ok 23 rfl) (by decide) rfl (fun c33 => ?_) (fun c33 => False.elim (c33 hk))
      refine go_iconst (v := 0) (q := 41) (gDec iX11_kernedPairs_ok 26 rfl) (by decide) rfl ?_
      refine go_iadd (q := 42) (gDec iX11_kernedPairs_ok 27 rfl) rfl ?_
      refine go_istore_n (q := 43) (gDec iX11_kernedPairs_ok 28 rfl) rfl (by decide) rfl ?_
      refine go_iinc (v := nI (i + 1)) (q := 46) (gDec iX11_kernedPairs_ok 29 rfl) rfl (nI_1 _) (by decide) rfl ?_
      refine go_goto (t := 16) (gDec iX11_kernedPairs_ok 30 rfl) (by decide) ?_
      rw [show (fun h a => if gKn τ g h = 0 then a else a + 1) i a = (a + 0) from (if_pos hk).trans (Int32.add_zero a).symm] at ih2
      refine go_sub (L' := [(0, .ref (κ.2.1 + 376)), (1, .int (a + 0)), (2, .int (nI g)), (3, .int (nI (i + 1)))]) ⟨rfl, rfl, rfl, rfl, trivial⟩ ?_
      exact ih2
    · skip
      refine go_iload_n (q := 17) (gDec iX11_kernedPairs_ok 12 rfl) rfl rfl rfl ?_
      refine go_aload_n (q := 18) (gDec iX11_kernedPairs_ok 13 rfl) rfl rfl rfl ?_
      refine go_getr (r' := 377) (q := 21) fX11_9 (gDec iX11_kernedPairs_ok 14 rfl) rfl (by decide) rfl ?_
      refine go_iconst (v := nI 0) (q := 22) (gDec iX11_kernedPairs_ok 15 rfl) (by decide) rfl ?_
      refine go_top (v' := nI 0) (rfl) ?_
      refine go_ialdN (q := 23) (gDec iX11_kernedPairs_ok 16 rfl) rfl (by decide) (by omega) (by decide) rfl ?_
      refine go_top (v' := nI (gNg τ)) (hM.ng hW) ?_
      refine go_icmp_ge (t := 49) (q := 26) (gDec iX11_kernedPairs_ok 17 rfl) (by decide) rfl (fun c23 => False.elim (nI_ge (a := i) (b := gNg τ) (by omega) (by omega) c23)) (fun c23 => ?_)
      refine go_iload_n (q := 27) (gDec iX11_kernedPairs_ok 18 rfl) rfl rfl rfl ?_
      refine go_aload_n (q := 28) (gDec iX11_kernedPairs_ok 19 rfl) rfl rfl rfl ?_
      refine go_iload_n (q := 29) (gDec iX11_kernedPairs_ok 20 rfl) rfl rfl rfl ?_
      refine go_iload_n (q := 30) (gDec iX11_kernedPairs_ok 21 rfl) rfl rfl rfl ?_
      refine go_callV (n2 := 0) (q := 33) kX11_172 (ctX11_kernOf (τ := τ) hW hM (by omega) (by omega)) (gDec iX11_kernedPairs_ok 22 rfl) rfl rfl (by decide) rfl rfl rfl (Nat.le_of_ble_eq_true rfl) rfl (gFit_rm (by decide) (by decide)) rfl ?_
      refine go_if_eq (t := 40) (q := 36) (gDec iX11_kernedPairs_ok 23 rfl) (by decide) rfl (fun c33 => False.elim (hk c33)) (fun c33 => ?_)
      refine go_iconst (v := 1) (q := 37) (gDec iX11_kernedPairs_ok 24 rfl) (by decide) rfl ?_
      refine go_goto (t := 41) (gDec iX11_kernedPairs_ok 25 rfl) (by decide) ?_
      refine go_iadd (q := 42) (gDec iX11_kernedPairs_ok 27 rfl) rfl ?_
      refine go_istore_n (q := 43) (gDec iX11_kernedPairs_ok 28 rfl) rfl (by decide) rfl ?_
      refine go_iinc (v := nI (i + 1)) (q := 46) (gDec iX11_kernedPairs_ok 29 rfl) rfl (nI_1 _) (by decide) rfl ?_
      refine go_goto (t := 16) (gDec iX11_kernedPairs_ok 30 rfl) (by decide) ?_
      rw [show (fun h a => if gKn τ g h = 0 then a else a + 1) i a = (a + 1) from if_neg hk] at ih2
      refine go_sub (L' := [(0, .ref (κ.2.1 + 376)), (1, .int (a + 1)), (2, .int (nI g)), (3, .int (nI (i + 1)))]) ⟨rfl, rfl, rfl, rfl, trivial⟩ ?_
      exact ih2

set_option maxHeartbeats 4000000 in
set_option maxRecDepth 100000 in
theorem lpX11_kp1 {κ : gK} {Z : gZ} {σ : gST} {τ : gST} (hC : gCI τ) (hM : gMR τ (σ.1 377)) : ∀ (m i : Nat) (a : Int32), i + m = (gNg τ) → Go κ mX11_kernedPairs (gRm 5 0) Z 55 [(0, .ref (κ.2.1 + 376)), (1, .int (gLoop (fun g a => gLoop (fun h a => if gKn τ g h = 0 then a else a + 1) 0 (gNg τ) a) i m a)), (2, .int (nI (gNg τ)))] [] σ 0 → Go κ mX11_kernedPairs (gRm 5 0) Z 4 [(0, .ref (κ.2.1 + 376)), (1, .int a), (2, .int (nI i))] [] σ 0 := by
  have hW := hC.dw
  have h24 := hW.ng24
  intro m
  induction m with
  | zero =>
    intro i a hi h
    have hiN : (gNg τ) = i := by omega
    rw [hiN] at h
    refine go_iload_n (q := 5) (gDec iX11_kernedPairs_ok 4 rfl) rfl rfl rfl ?_
    refine go_aload_n (q := 6) (gDec iX11_kernedPairs_ok 5 rfl) rfl rfl rfl ?_
    refine go_getr (r' := 377) (q := 9) fX11_9 (gDec iX11_kernedPairs_ok 6 rfl) rfl (by decide) rfl ?_
    refine go_iconst (v := nI 0) (q := 10) (gDec iX11_kernedPairs_ok 7 rfl) (by decide) rfl ?_
    refine go_top (v' := nI 0) (rfl) ?_
    refine go_ialdN (q := 11) (gDec iX11_kernedPairs_ok 8 rfl) rfl (by decide) (by omega) (by decide) rfl ?_
    refine go_top (v' := nI (gNg τ)) (hM.ng hW) ?_
    refine go_icmp_ge (t := 55) (q := 14) (gDec iX11_kernedPairs_ok 9 rfl) (by decide) rfl (fun c11 => ?_) (fun c11 => False.elim (c11 (nI_le (a := (gNg τ)) (b := i) (by omega) (by omega))))
    refine go_sub (L' := [(0, .ref (κ.2.1 + 376)), (1, .int a), (2, .int (nI i))]) ⟨rfl, rfl, rfl, trivial⟩ ?_
    exact h
  | succ m ih =>
    intro i a hi h
    refine go_iload_n (q := 5) (gDec iX11_kernedPairs_ok 4 rfl) rfl rfl rfl ?_
    refine go_aload_n (q := 6) (gDec iX11_kernedPairs_ok 5 rfl) rfl rfl rfl ?_
    refine go_getr (r' := 377) (q := 9) fX11_9 (gDec iX11_kernedPairs_ok 6 rfl) rfl (by decide) rfl ?_
    refine go_iconst (v := nI 0) (q := 10) (gDec iX11_kernedPairs_ok 7 rfl) (by decide) rfl ?_
    refine go_top (v' := nI 0) (rfl) ?_
    refine go_ialdN (q := 11) (gDec iX11_kernedPairs_ok 8 rfl) rfl (by decide) (by omega) (by decide) rfl ?_
    refine go_top (v' := nI (gNg τ)) (hM.ng hW) ?_
    refine go_icmp_ge (t := 55) (q := 14) (gDec iX11_kernedPairs_ok 9 rfl) (by decide) rfl (fun c11 => False.elim (nI_ge (a := i) (b := (gNg τ)) (by omega) (by omega) c11)) (fun c11 => ?_)
    refine go_iconst (v := nI 0) (q := 15) (gDec iX11_kernedPairs_ok 10 rfl) (by decide) rfl ?_
    refine go_istore_n (q := 16) (gDec iX11_kernedPairs_ok 11 rfl) rfl (by decide) rfl ?_
    refine go_sub (L' := [(0, .ref (κ.2.1 + 376)), (1, .int a), (2, .int (nI i)), (3, .int (nI 0))]) ⟨rfl, rfl, rfl, rfl, trivial⟩ ?_
    refine lpX11_kp2 hC hM (by omega) (gNg τ) 0 a (by omega) ?_
    refine go_iinc (v := nI (i + 1)) (q := 52) (gDec iX11_kernedPairs_ok 31 rfl) rfl (nI_1 _) (by decide) rfl ?_
    refine go_goto (t := 4) (gDec iX11_kernedPairs_ok 32 rfl) (by decide) ?_
    refine go_sub (L' := [(0, .ref (κ.2.1 + 376)), (1, .int ((fun g a => gLoop (fun h a => if gKn τ g h = 0 then a else a + 1) 0 (gNg τ) a) i a)), (2, .int (nI (i + 1)))]) ⟨rfl, rfl, rfl, trivial⟩ ?_
    exact ih (i + 1) ((fun g a => gLoop (fun h a => if gKn τ g h = 0 then a else a + 1) 0 (gNg τ) a) i a) (by omega) h

set_option maxHeartbeats 4000000 in
set_option maxRecDepth 100000 in
theorem ctX11_kernedPairs {κ : gK} {σ : gST} {τ : gST} (hC : gCI τ) (hM : gMR τ (σ.1 377)) : gCt κ mX11_kernedPairs 5 [.ref (κ.2.1 + 376)] σ (.inl (some (.int (gLoop (fun g a => gLoop (fun h a => if gKn τ g h = 0 then a else a + 1) 0 (gNg τ) a) 0 (gNg τ) 0)))) σ 0 := by
  refine ct_of (by decide +kernel) rfl (Nat.le_of_ble_eq_true rfl) rfl ?_
  refine go_iconst (v := 0) (q := 1) (gDec iX11_kernedPairs_ok 0 rfl) (by decide) rfl ?_
  refine go_istore_n (q := 2) (gDec iX11_kernedPairs_ok 1 rfl) rfl (by decide) rfl ?_
  refine go_iconst (v := nI 0) (q := 3) (gDec iX11_kernedPairs_ok 2 rfl) (by decide) rfl ?_
  refine go_istore_n (q := 4) (gDec iX11_kernedPairs_ok 3 rfl) rfl (by decide) rfl ?_
  refine go_sub (L' := [(0, .ref (κ.2.1 + 376)), (1, .int 0), (2, .int (nI 0))]) ⟨rfl, rfl, rfl, trivial⟩ ?_
  refine lpX11_kp1 hC hM (gNg τ) 0 0 (by omega) ?_
  refine go_iload_n (q := 56) (gDec iX11_kernedPairs_ok 33 rfl) rfl rfl rfl ?_
  exact go_ireturn (gDec iX11_kernedPairs_ok 34 rfl) rfl rfl rfl rfl (by decide)

def oB (x : Option Nat) : Int32 := match x with
  | none => 0
  | some _ => 1
def gSuS (τ : gST) (w g : Nat) : Int32 := if w = 1 then τ.1 6 g else if w = 2 then gLoop (fun c a => a + τ.1 8 (g * 3 + c)) 0 (gNc τ g) 0 else if w = 7 then τ.1 31 g else oB (gLe τ (2 * g)) + oB (gLe τ (2 * g + 1))

set_option maxHeartbeats 4000000 in
set_option maxRecDepth 100000 in
theorem lpX11_sumOf1 {κ : gK} {Z : gZ} {σ τ : gST} (hC : gCI τ) (hM : gMR τ (σ.1 377)) : ∀ (m i : Nat) (a : Int32), i + m = gNg τ → Go κ mX11_sumOf (gRm 6 0) Z 99 [(0, .ref (κ.2.1 + 376)), (1, .int (nI 1)), (2, .int (gLoop (fun g a => a + gSuS τ 1 g) i m a)), (3, .int (nI (gNg τ)))] [] σ 0 → Go κ mX11_sumOf (gRm 6 0) Z 4 [(0, .ref (κ.2.1 + 376)), (1, .int (nI 1)), (2, .int a), (3, .int (nI i))] [] σ 0 := by
  have hW := hC.dw
  have h24 := hW.ng24
  intro m
  induction m with
  | zero =>
    intro i a hi h
    have hiN : gNg τ = i := by omega
    subst hiN
    refine go_iload_n (q := 5) (gDec iX11_sumOf_ok 4 rfl) rfl rfl rfl ?_
    refine go_aload_n (q := 6) (gDec iX11_sumOf_ok 5 rfl) rfl rfl rfl ?_
    refine go_getr (r' := 377) (q := 9) fX11_9 (gDec iX11_sumOf_ok 6 rfl) rfl (by decide) rfl ?_
    refine go_iconst (v := nI 0) (q := 10) (gDec iX11_sumOf_ok 7 rfl) (by decide) rfl ?_
    refine go_top (v' := nI 0) (rfl) ?_
    refine go_ialdN (q := 11) (gDec iX11_sumOf_ok 8 rfl) rfl (by decide) (by omega) (by decide) rfl ?_
    refine go_top (v' := nI (gNg τ)) (hM.ng hW) ?_
    refine go_icmp_ge (t := 99) (q := 14) (gDec iX11_sumOf_ok 9 rfl) (by decide) rfl (fun c11 => ?_) (fun c11 => False.elim (c11 (Int32.le_refl _)))
    exact h
  | succ m ih =>
    intro i a hi h
    refine go_iload_n (q := 5) (gDec iX11_sumOf_ok 4 rfl) rfl rfl rfl ?_
    refine go_aload_n (q := 6) (gDec iX11_sumOf_ok 5 rfl) rfl rfl rfl ?_
    refine go_getr (r' := 377) (q := 9) fX11_9 (gDec iX11_sumOf_ok 6 rfl) rfl (by decide) rfl ?_
    refine go_iconst (v := nI 0) (q := 10) (gDec iX11_sumOf_ok 7 rfl) (by decide) rfl ?_
    refine go_top (v' := nI 0) (rfl) ?_
    refine go_ialdN (q := 11) (gDec iX11_sumOf_ok 8 rfl) rfl (by decide) (by omega) (by decide) rfl ?_
    refine go_top (v' := nI (gNg τ)) (hM.ng hW) ?_
    refine go_icmp_ge (t := 99) (q := 14) (gDec iX11_sumOf_ok 9 rfl) (by decide) rfl (fun c11 => False.elim (nI_ge (a := i) (b := gNg τ) (by omega) (by omega) c11)) (fun c11 => ?_)
    refine go_iload_n (q := 15) (gDec iX11_sumOf_ok 10 rfl) rfl rfl rfl ?_
    refine go_iload_n (q := 16) (gDec iX11_sumOf_ok 11 rfl) rfl rfl rfl ?_
    refine go_iconst (v := nI 1) (q := 17) (gDec iX11_sumOf_ok 12 rfl) (by decide) rfl ?_
    refine go_icmp_ne (t := 29) (q := 20) (gDec iX11_sumOf_ok 13 rfl) (by decide) rfl (fun c17 => False.elim (c17 rfl)) (fun c17 => ?_)
    refine go_aload_n (q := 21) (gDec iX11_sumOf_ok 14 rfl) rfl rfl rfl ?_
    refine go_iload_n (q := 22) (gDec iX11_sumOf_ok 15 rfl) rfl rfl rfl ?_
    refine go_iconst (v := nI 1) (q := 23) (gDec iX11_sumOf_ok 16 rfl) (by decide) rfl ?_
    refine go_callV (n2 := 0) (q := 26) kX11_69 (ctX11_of (g := i) (w := 1) (by omega)) (gDec iX11_sumOf_ok 17 rfl) rfl rfl (by decide) rfl rfl rfl (Nat.le_of_ble_eq_true rfl) rfl (gFit_rm (by decide) (by decide)) rfl ?_
    refine go_goto (t := 91) (gDec iX11_sumOf_ok 18 rfl) (by decide) ?_
    refine go_top (v' := gSuS τ 1 i) (hM.nc0 (by omega) rfl) ?_
    refine go_iadd (q := 92) (gDec iX11_sumOf_ok 55 rfl) rfl ?_
    refine go_istore_n (q := 93) (gDec iX11_sumOf_ok 56 rfl) rfl (by decide) rfl ?_
    refine go_iinc (v := nI (i + 1)) (q := 96) (gDec iX11_sumOf_ok 57 rfl) rfl (nI_1 _) (by decide) rfl ?_
    refine go_goto (t := 4) (gDec iX11_sumOf_ok 58 rfl) (by decide) ?_
    refine go_sub (L' := [(0, .ref (κ.2.1 + 376)), (1, .int (nI 1)), (2, .int ((fun g a => a + gSuS τ 1 g) i a)), (3, .int (nI (i + 1)))]) ⟨rfl, rfl, rfl, rfl, trivial⟩ ?_
    exact ih (i + 1) ((fun g a => a + gSuS τ 1 g) i a) (by omega) h

set_option maxHeartbeats 4000000 in
set_option maxRecDepth 100000 in
theorem ctX11_sumOf1 {κ : gK} {σ : gST} {τ : gST} (hC : gCI τ) (hM : gMR τ (σ.1 377)) : gCt κ mX11_sumOf 6 [.ref (κ.2.1 + 376), .int (nI 1)] σ (.inl (some (.int (gLoop (fun g a => a + gSuS τ 1 g) 0 (gNg τ) 0)))) σ 0 := by
  refine ct_of (by decide +kernel) rfl (Nat.le_of_ble_eq_true rfl) rfl ?_
  refine go_iconst (v := 0) (q := 1) (gDec iX11_sumOf_ok 0 rfl) (by decide) rfl ?_
  refine go_istore_n (q := 2) (gDec iX11_sumOf_ok 1 rfl) rfl (by decide) rfl ?_
  refine go_iconst (v := nI 0) (q := 3) (gDec iX11_sumOf_ok 2 rfl) (by decide) rfl ?_
  refine go_istore_n (q := 4) (gDec iX11_sumOf_ok 3 rfl) rfl (by decide) rfl ?_
  refine go_sub (L' := [(0, .ref (κ.2.1 + 376)), (1, .int (nI 1)), (2, .int 0), (3, .int (nI 0))]) ⟨rfl, rfl, rfl, rfl, trivial⟩ ?_
  refine lpX11_sumOf1 hC hM (gNg τ) 0 0 (by omega) ?_
  refine go_iload_n (q := 100) (gDec iX11_sumOf_ok 59 rfl) rfl rfl rfl ?_
  exact go_ireturn (gDec iX11_sumOf_ok 60 rfl) rfl rfl rfl rfl (by decide)

set_option maxHeartbeats 4000000 in
set_option maxRecDepth 100000 in
theorem lpX11_sumOf2 {κ : gK} {Z : gZ} {σ τ : gST} (hC : gCI τ) (hM : gMR τ (σ.1 377)) : ∀ (m i : Nat) (a : Int32), i + m = gNg τ → Go κ mX11_sumOf (gRm 6 0) Z 99 [(0, .ref (κ.2.1 + 376)), (1, .int (nI 2)), (2, .int (gLoop (fun g a => a + gSuS τ 2 g) i m a)), (3, .int (nI (gNg τ)))] [] σ 0 → Go κ mX11_sumOf (gRm 6 0) Z 4 [(0, .ref (κ.2.1 + 376)), (1, .int (nI 2)), (2, .int a), (3, .int (nI i))] [] σ 0 := by
  have hW := hC.dw
  have h24 := hW.ng24
  intro m
  induction m with
  | zero =>
    intro i a hi h
    have hiN : gNg τ = i := by omega
    subst hiN
    refine go_iload_n (q := 5) (gDec iX11_sumOf_ok 4 rfl) rfl rfl rfl ?_
    refine go_aload_n (q := 6) (gDec iX11_sumOf_ok 5 rfl) rfl rfl rfl ?_
    refine go_getr (r' := 377) (q := 9) fX11_9 (gDec iX11_sumOf_ok 6 rfl) rfl (by decide) rfl ?_
    refine go_iconst (v := nI 0) (q := 10) (gDec iX11_sumOf_ok 7 rfl) (by decide) rfl ?_
    refine go_top (v' := nI 0) (rfl) ?_
    refine go_ialdN (q := 11) (gDec iX11_sumOf_ok 8 rfl) rfl (by decide) (by omega) (by decide) rfl ?_
    refine go_top (v' := nI (gNg τ)) (hM.ng hW) ?_
    refine go_icmp_ge (t := 99) (q := 14) (gDec iX11_sumOf_ok 9 rfl) (by decide) rfl (fun c11 => ?_) (fun c11 => False.elim (c11 (Int32.le_refl _)))
    exact h
  | succ m ih =>
    intro i a hi h
    refine go_iload_n (q := 5) (gDec iX11_sumOf_ok 4 rfl) rfl rfl rfl ?_
    refine go_aload_n (q := 6) (gDec iX11_sumOf_ok 5 rfl) rfl rfl rfl ?_
    refine go_getr (r' := 377) (q := 9) fX11_9 (gDec iX11_sumOf_ok 6 rfl) rfl (by decide) rfl ?_
    refine go_iconst (v := nI 0) (q := 10) (gDec iX11_sumOf_ok 7 rfl) (by decide) rfl ?_
    refine go_top (v' := nI 0) (rfl) ?_
    refine go_ialdN (q := 11) (gDec iX11_sumOf_ok 8 rfl) rfl (by decide) (by omega) (by decide) rfl ?_
    refine go_top (v' := nI (gNg τ)) (hM.ng hW) ?_
    refine go_icmp_ge (t := 99) (q := 14) (gDec iX11_sumOf_ok 9 rfl) (by decide) rfl (fun c11 => False.elim (nI_ge (a := i) (b := gNg τ) (by omega) (by omega) c11)) (fun c11 => ?_)
    refine go_iload_n (q := 15) (gDec iX11_sumOf_ok 10 rfl) rfl rfl rfl ?_
    refine go_iload_n (q := 16) (gDec iX11_sumOf_ok 11 rfl) rfl rfl rfl ?_
    refine go_iconst (v := nI 1) (q := 17) (gDec iX11_sumOf_ok 12 rfl) (by decide) rfl ?_
    refine go_icmp_ne (t := 29) (q := 20) (gDec iX11_sumOf_ok 13 rfl) (by decide) rfl (fun c17 => ?_) (fun c17 => False.elim (absurd c17 (by decide)))
    refine go_iload_n (q := 30) (gDec iX11_sumOf_ok 19 rfl) rfl rfl rfl ?_
    refine go_iconst (v := nI 2) (q := 31) (gDec iX11_sumOf_ok 20 rfl) (by decide) rfl ?_
    refine go_icmp_ne (t := 42) (q := 34) (gDec iX11_sumOf_ok 21 rfl) (by decide) rfl (fun c31 => False.elim (c31 rfl)) (fun c31 => ?_)
    refine go_aload_n (q := 35) (gDec iX11_sumOf_ok 22 rfl) rfl rfl rfl ?_
    refine go_iload_n (q := 36) (gDec iX11_sumOf_ok 23 rfl) rfl rfl rfl ?_
    refine go_callV (n2 := 0) (q := 39) kX11_126 (ctX11_pointsOf (τ := τ) hW hM (by omega)) (gDec iX11_sumOf_ok 24 rfl) rfl rfl (by decide) rfl rfl rfl (Nat.le_of_ble_eq_true rfl) rfl (gFit_rm (by decide) (by decide)) rfl ?_
    refine go_goto (t := 91) (gDec iX11_sumOf_ok 25 rfl) (by decide) ?_
    refine go_top (v' := gSuS τ 2 i) (rfl) ?_
    refine go_iadd (q := 92) (gDec iX11_sumOf_ok 55 rfl) rfl ?_
    refine go_istore_n (q := 93) (gDec iX11_sumOf_ok 56 rfl) rfl (by decide) rfl ?_
    refine go_iinc (v := nI (i + 1)) (q := 96) (gDec iX11_sumOf_ok 57 rfl) rfl (nI_1 _) (by decide) rfl ?_
    refine go_goto (t := 4) (gDec iX11_sumOf_ok 58 rfl) (by decide) ?_
    refine go_sub (L' := [(0, .ref (κ.2.1 + 376)), (1, .int (nI 2)), (2, .int ((fun g a => a + gSuS τ 2 g) i a)), (3, .int (nI (i + 1)))]) ⟨rfl, rfl, rfl, rfl, trivial⟩ ?_
    exact ih (i + 1) ((fun g a => a + gSuS τ 2 g) i a) (by omega) h

set_option maxHeartbeats 4000000 in
set_option maxRecDepth 100000 in
theorem ctX11_sumOf2 {κ : gK} {σ : gST} {τ : gST} (hC : gCI τ) (hM : gMR τ (σ.1 377)) : gCt κ mX11_sumOf 6 [.ref (κ.2.1 + 376), .int (nI 2)] σ (.inl (some (.int (gLoop (fun g a => a + gSuS τ 2 g) 0 (gNg τ) 0)))) σ 0 := by
  refine ct_of (by decide +kernel) rfl (Nat.le_of_ble_eq_true rfl) rfl ?_
  refine go_iconst (v := 0) (q := 1) (gDec iX11_sumOf_ok 0 rfl) (by decide) rfl ?_
  refine go_istore_n (q := 2) (gDec iX11_sumOf_ok 1 rfl) rfl (by decide) rfl ?_
  refine go_iconst (v := nI 0) (q := 3) (gDec iX11_sumOf_ok 2 rfl) (by decide) rfl ?_
  refine go_istore_n (q := 4) (gDec iX11_sumOf_ok 3 rfl) rfl (by decide) rfl ?_
  refine go_sub (L' := [(0, .ref (κ.2.1 + 376)), (1, .int (nI 2)), (2, .int 0), (3, .int (nI 0))]) ⟨rfl, rfl, rfl, rfl, trivial⟩ ?_
  refine lpX11_sumOf2 hC hM (gNg τ) 0 0 (by omega) ?_
  refine go_iload_n (q := 100) (gDec iX11_sumOf_ok 59 rfl) rfl rfl rfl ?_
  exact go_ireturn (gDec iX11_sumOf_ok 60 rfl) rfl rfl rfl rfl (by decide)

set_option maxHeartbeats 4000000 in
set_option maxRecDepth 100000 in
theorem lpX11_sumOf7 {κ : gK} {Z : gZ} {σ τ : gST} (hC : gCI τ) (hM : gMR τ (σ.1 377)) : ∀ (m i : Nat) (a : Int32), i + m = gNg τ → Go κ mX11_sumOf (gRm 6 0) Z 99 [(0, .ref (κ.2.1 + 376)), (1, .int (nI 7)), (2, .int (gLoop (fun g a => a + gSuS τ 7 g) i m a)), (3, .int (nI (gNg τ)))] [] σ 0 → Go κ mX11_sumOf (gRm 6 0) Z 4 [(0, .ref (κ.2.1 + 376)), (1, .int (nI 7)), (2, .int a), (3, .int (nI i))] [] σ 0 := by
  have hW := hC.dw
  have h24 := hW.ng24
  intro m
  induction m with
  | zero =>
    intro i a hi h
    have hiN : gNg τ = i := by omega
    subst hiN
    refine go_iload_n (q := 5) (gDec iX11_sumOf_ok 4 rfl) rfl rfl rfl ?_
    refine go_aload_n (q := 6) (gDec iX11_sumOf_ok 5 rfl) rfl rfl rfl ?_
    refine go_getr (r' := 377) (q := 9) fX11_9 (gDec iX11_sumOf_ok 6 rfl) rfl (by decide) rfl ?_
    refine go_iconst (v := nI 0) (q := 10) (gDec iX11_sumOf_ok 7 rfl) (by decide) rfl ?_
    refine go_top (v' := nI 0) (rfl) ?_
    refine go_ialdN (q := 11) (gDec iX11_sumOf_ok 8 rfl) rfl (by decide) (by omega) (by decide) rfl ?_
    refine go_top (v' := nI (gNg τ)) (hM.ng hW) ?_
    refine go_icmp_ge (t := 99) (q := 14) (gDec iX11_sumOf_ok 9 rfl) (by decide) rfl (fun c11 => ?_) (fun c11 => False.elim (c11 (Int32.le_refl _)))
    exact h
  | succ m ih =>
    intro i a hi h
    refine go_iload_n (q := 5) (gDec iX11_sumOf_ok 4 rfl) rfl rfl rfl ?_
    refine go_aload_n (q := 6) (gDec iX11_sumOf_ok 5 rfl) rfl rfl rfl ?_
    refine go_getr (r' := 377) (q := 9) fX11_9 (gDec iX11_sumOf_ok 6 rfl) rfl (by decide) rfl ?_
    refine go_iconst (v := nI 0) (q := 10) (gDec iX11_sumOf_ok 7 rfl) (by decide) rfl ?_
    refine go_top (v' := nI 0) (rfl) ?_
    refine go_ialdN (q := 11) (gDec iX11_sumOf_ok 8 rfl) rfl (by decide) (by omega) (by decide) rfl ?_
    refine go_top (v' := nI (gNg τ)) (hM.ng hW) ?_
    refine go_icmp_ge (t := 99) (q := 14) (gDec iX11_sumOf_ok 9 rfl) (by decide) rfl (fun c11 => False.elim (nI_ge (a := i) (b := gNg τ) (by omega) (by omega) c11)) (fun c11 => ?_)
    refine go_iload_n (q := 15) (gDec iX11_sumOf_ok 10 rfl) rfl rfl rfl ?_
    refine go_iload_n (q := 16) (gDec iX11_sumOf_ok 11 rfl) rfl rfl rfl ?_
    refine go_iconst (v := nI 1) (q := 17) (gDec iX11_sumOf_ok 12 rfl) (by decide) rfl ?_
    refine go_icmp_ne (t := 29) (q := 20) (gDec iX11_sumOf_ok 13 rfl) (by decide) rfl (fun c17 => ?_) (fun c17 => False.elim (absurd c17 (by decide)))
    refine go_iload_n (q := 30) (gDec iX11_sumOf_ok 19 rfl) rfl rfl rfl ?_
    refine go_iconst (v := nI 2) (q := 31) (gDec iX11_sumOf_ok 20 rfl) (by decide) rfl ?_
    refine go_icmp_ne (t := 42) (q := 34) (gDec iX11_sumOf_ok 21 rfl) (by decide) rfl (fun c31 => ?_) (fun c31 => False.elim (absurd c31 (by decide)))
    refine go_iload_n (q := 43) (gDec iX11_sumOf_ok 26 rfl) rfl rfl rfl ?_
    refine go_bipush (v := nI 7) (q := 45) (gDec iX11_sumOf_ok 27 rfl) (by decide) rfl ?_
    refine go_icmp_ne (t := 58) (q := 48) (gDec iX11_sumOf_ok 28 rfl) (by decide) rfl (fun c45 => False.elim (c45 rfl)) (fun c45 => ?_)
    refine go_aload_n (q := 49) (gDec iX11_sumOf_ok 29 rfl) rfl rfl rfl ?_
    refine go_iload_n (q := 50) (gDec iX11_sumOf_ok 30 rfl) rfl rfl rfl ?_
    refine go_bipush (v := nI 87) (q := 52) (gDec iX11_sumOf_ok 31 rfl) (by decide) rfl ?_
    refine go_callV (n2 := 0) (q := 55) kX11_69 (ctX11_of (g := i) (w := 87) (by omega)) (gDec iX11_sumOf_ok 32 rfl) rfl rfl (by decide) rfl rfl rfl (Nat.le_of_ble_eq_true rfl) rfl (gFit_rm (by decide) (by decide)) rfl ?_
    refine go_goto (t := 91) (gDec iX11_sumOf_ok 33 rfl) (by decide) ?_
    refine go_top (v' := gSuS τ 7 i) (hM.ns0 (by omega) rfl) ?_
    refine go_iadd (q := 92) (gDec iX11_sumOf_ok 55 rfl) rfl ?_
    refine go_istore_n (q := 93) (gDec iX11_sumOf_ok 56 rfl) rfl (by decide) rfl ?_
    refine go_iinc (v := nI (i + 1)) (q := 96) (gDec iX11_sumOf_ok 57 rfl) rfl (nI_1 _) (by decide) rfl ?_
    refine go_goto (t := 4) (gDec iX11_sumOf_ok 58 rfl) (by decide) ?_
    refine go_sub (L' := [(0, .ref (κ.2.1 + 376)), (1, .int (nI 7)), (2, .int ((fun g a => a + gSuS τ 7 g) i a)), (3, .int (nI (i + 1)))]) ⟨rfl, rfl, rfl, rfl, trivial⟩ ?_
    exact ih (i + 1) ((fun g a => a + gSuS τ 7 g) i a) (by omega) h

set_option maxHeartbeats 4000000 in
set_option maxRecDepth 100000 in
theorem ctX11_sumOf7 {κ : gK} {σ : gST} {τ : gST} (hC : gCI τ) (hM : gMR τ (σ.1 377)) : gCt κ mX11_sumOf 6 [.ref (κ.2.1 + 376), .int (nI 7)] σ (.inl (some (.int (gLoop (fun g a => a + gSuS τ 7 g) 0 (gNg τ) 0)))) σ 0 := by
  refine ct_of (by decide +kernel) rfl (Nat.le_of_ble_eq_true rfl) rfl ?_
  refine go_iconst (v := 0) (q := 1) (gDec iX11_sumOf_ok 0 rfl) (by decide) rfl ?_
  refine go_istore_n (q := 2) (gDec iX11_sumOf_ok 1 rfl) rfl (by decide) rfl ?_
  refine go_iconst (v := nI 0) (q := 3) (gDec iX11_sumOf_ok 2 rfl) (by decide) rfl ?_
  refine go_istore_n (q := 4) (gDec iX11_sumOf_ok 3 rfl) rfl (by decide) rfl ?_
  refine go_sub (L' := [(0, .ref (κ.2.1 + 376)), (1, .int (nI 7)), (2, .int 0), (3, .int (nI 0))]) ⟨rfl, rfl, rfl, rfl, trivial⟩ ?_
  refine lpX11_sumOf7 hC hM (gNg τ) 0 0 (by omega) ?_
  refine go_iload_n (q := 100) (gDec iX11_sumOf_ok 59 rfl) rfl rfl rfl ?_
  exact go_ireturn (gDec iX11_sumOf_ok 60 rfl) rfl rfl rfl rfl (by decide)

set_option maxHeartbeats 4000000 in
set_option maxRecDepth 100000 in
theorem lpX11_sumOf3 {κ : gK} {Z : gZ} {σ τ : gST} (hC : gCI τ) (hM : gMR τ (σ.1 377)) : ∀ (m i : Nat) (a : Int32), i + m = gNg τ → Go κ mX11_sumOf (gRm 6 0) Z 99 [(0, .ref (κ.2.1 + 376)), (1, .int (nI 3)), (2, .int (gLoop (fun g a => a + gSuS τ 3 g) i m a)), (3, .int (nI (gNg τ)))] [] σ 0 → Go κ mX11_sumOf (gRm 6 0) Z 4 [(0, .ref (κ.2.1 + 376)), (1, .int (nI 3)), (2, .int a), (3, .int (nI i))] [] σ 0 := by
  have hW := hC.dw
  have h24 := hW.ng24
  intro m
  induction m with
  | zero =>
    intro i a hi h
    have hiN : gNg τ = i := by omega
    subst hiN
    refine go_iload_n (q := 5) (gDec iX11_sumOf_ok 4 rfl) rfl rfl rfl ?_
    refine go_aload_n (q := 6) (gDec iX11_sumOf_ok 5 rfl) rfl rfl rfl ?_
    refine go_getr (r' := 377) (q := 9) fX11_9 (gDec iX11_sumOf_ok 6 rfl) rfl (by decide) rfl ?_
    refine go_iconst (v := nI 0) (q := 10) (gDec iX11_sumOf_ok 7 rfl) (by decide) rfl ?_
    refine go_top (v' := nI 0) (rfl) ?_
    refine go_ialdN (q := 11) (gDec iX11_sumOf_ok 8 rfl) rfl (by decide) (by omega) (by decide) rfl ?_
    refine go_top (v' := nI (gNg τ)) (hM.ng hW) ?_
    refine go_icmp_ge (t := 99) (q := 14) (gDec iX11_sumOf_ok 9 rfl) (by decide) rfl (fun c11 => ?_) (fun c11 => False.elim (c11 (Int32.le_refl _)))
    exact h
  | succ m ih =>
    intro i a hi h
    cases hl0 : gLe τ (2 * i) with
    | none =>
      cases hl1 : gLe τ (2 * i + 1) with
      | none =>
        refine go_iload_n (q := 5) (gDec iX11_sumOf_ok 4 rfl) rfl rfl rfl ?_
        refine go_aload_n (q := 6) (gDec iX11_sumOf_ok 5 rfl) rfl rfl rfl ?_
        refine go_getr (r' := 377) (q := 9) fX11_9 (gDec iX11_sumOf_ok 6 rfl) rfl (by decide) rfl ?_
        refine go_iconst (v := nI 0) (q := 10) (gDec iX11_sumOf_ok 7 rfl) (by decide) rfl ?_
        refine go_top (v' := nI 0) (rfl) ?_
        refine go_ialdN (q := 11) (gDec iX11_sumOf_ok 8 rfl) rfl (by decide) (by omega) (by decide) rfl ?_
        refine go_top (v' := nI (gNg τ)) (hM.ng hW) ?_
        refine go_icmp_ge (t := 99) (q := 14) (gDec iX11_sumOf_ok 9 rfl) (by decide) rfl (fun c11 => False.elim (nI_ge (a := i) (b := gNg τ) (by omega) (by omega) c11)) (fun c11 => ?_)
        refine go_iload_n (q := 15) (gDec iX11_sumOf_ok 10 rfl) rfl rfl rfl ?_
        refine go_iload_n (q := 16) (gDec iX11_sumOf_ok 11 rfl) rfl rfl rfl ?_
        refine go_iconst (v := nI 1) (q := 17) (gDec iX11_sumOf_ok 12 rfl) (by decide) rfl ?_
        refine go_icmp_ne (t := 29) (q := 20) (gDec iX11_sumOf_ok 13 rfl) (by decide) rfl (fun c17 => ?_) (fun c17 => False.elim (absurd c17 (by decide)))
        refine go_iload_n (q := 30) (gDec iX11_sumOf_ok 19 rfl) rfl rfl rfl ?_
        refine go_iconst (v := nI 2) (q := 31) (gDec iX11_sumOf_ok 20 rfl) (by decide) rfl ?_
        refine go_icmp_ne (t := 42) (q := 34) (gDec iX11_sumOf_ok 21 rfl) (by decide) rfl (fun c31 => ?_) (fun c31 => False.elim (absurd c31 (by decide)))
        refine go_iload_n (q := 43) (gDec iX11_sumOf_ok 26 rfl) rfl rfl rfl ?_
        refine go_bipush (v := nI 7) (q := 45) (gDec iX11_sumOf_ok 27 rfl) (by decide) rfl ?_
        refine go_icmp_ne (t := 58) (q := 48) (gDec iX11_sumOf_ok 28 rfl) (by decide) rfl (fun c45 => ?_) (fun c45 => False.elim (absurd c45 (by decide)))
        refine go_aload_n (q := 59) (gDec iX11_sumOf_ok 34 rfl) rfl rfl rfl ?_
        refine go_iconst (v := nI 2) (q := 60) (gDec iX11_sumOf_ok 35 rfl) (by decide) rfl ?_
        refine go_iload_n (q := 61) (gDec iX11_sumOf_ok 36 rfl) rfl rfl rfl ?_
        refine go_imulN (c := 2 * i) (q := 62) (gDec iX11_sumOf_ok 37 rfl) rfl rfl ?_
        refine go_callV (n2 := 0) (q := 65) kX11_138 (ctX11_followed (b := 2 * i) hC hM (by omega)) (gDec iX11_sumOf_ok 38 rfl) rfl rfl (by decide) rfl rfl rfl (Nat.le_of_ble_eq_true rfl) rfl (gFit_rm (by decide) (by decide)) rfl ?_
        refine go_top (v' := -1) (by rw [hl0]; rfl) ?_
        refine go_if_lt (t := 72) (q := 68) (gDec iX11_sumOf_ok 39 rfl) (by decide) rfl (fun c65 => ?_) (fun c65 => False.elim (c65 (by decide)))
        refine go_iconst (v := 0) (q := 73) (gDec iX11_sumOf_ok 42 rfl) (by decide) rfl ?_
        refine go_aload_n (q := 74) (gDec iX11_sumOf_ok 43 rfl) rfl rfl rfl ?_
        refine go_iconst (v := nI 2) (q := 75) (gDec iX11_sumOf_ok 44 rfl) (by decide) rfl ?_
        refine go_iload_n (q := 76) (gDec iX11_sumOf_ok 45 rfl) rfl rfl rfl ?_
        refine go_imulN (c := 2 * i) (q := 77) (gDec iX11_sumOf_ok 46 rfl) rfl rfl ?_
        refine go_iconst (v := nI 1) (q := 78) (gDec iX11_sumOf_ok 47 rfl) (by decide) rfl ?_
        refine go_iaddN (c := 2 * i + 1) (q := 79) (gDec iX11_sumOf_ok 48 rfl) rfl rfl ?_
        refine go_callV (n2 := 0) (q := 82) kX11_138 (ctX11_followed (b := 2 * i + 1) hC hM (by omega)) (gDec iX11_sumOf_ok 49 rfl) rfl rfl (by decide) rfl rfl rfl (Nat.le_of_ble_eq_true rfl) rfl (gFit_rm (by decide) (by decide)) rfl ?_
        refine go_top (v' := -1) (by rw [hl1]; rfl) ?_
        refine go_if_lt (t := 89) (q := 85) (gDec iX11_sumOf_ok 50 rfl) (by decide) rfl (fun c82 => ?_) (fun c82 => False.elim (c82 (by decide)))
        refine go_iconst (v := 0) (q := 90) (gDec iX11_sumOf_ok 53 rfl) (by decide) rfl ?_
        refine go_iadd (q := 91) (gDec iX11_sumOf_ok 54 rfl) rfl ?_
        refine go_top (v' := gSuS τ 3 i) (by unfold gSuS; rw [if_neg (by decide), if_neg (by decide), if_neg (by decide), hl0, hl1]; rfl) ?_
        refine go_iadd (q := 92) (gDec iX11_sumOf_ok 55 rfl) rfl ?_
        refine go_istore_n (q := 93) (gDec iX11_sumOf_ok 56 rfl) rfl (by decide) rfl ?_
        refine go_iinc (v := nI (i + 1)) (q := 96) (gDec iX11_sumOf_ok 57 rfl) rfl (nI_1 _) (by decide) rfl ?_
        refine go_goto (t := 4) (gDec iX11_sumOf_ok 58 rfl) (by decide) ?_
        refine go_sub (L' := [(0, .ref (κ.2.1 + 376)), (1, .int (nI 3)), (2, .int ((fun g a => a + gSuS τ 3 g) i a)), (3, .int (nI (i + 1)))]) ⟨rfl, rfl, rfl, rfl, trivial⟩ ?_
        exact ih (i + 1) ((fun g a => a + gSuS τ 3 g) i a) (by omega) h
      | some f1 =>
        have hf1 := hC.lw.1 _ f1 (show 2 * i + 1 < 2 * gNg τ by omega) hl1
        refine go_iload_n (q := 5) (gDec iX11_sumOf_ok 4 rfl) rfl rfl rfl ?_
        refine go_aload_n (q := 6) (gDec iX11_sumOf_ok 5 rfl) rfl rfl rfl ?_
        refine go_getr (r' := 377) (q := 9) fX11_9 (gDec iX11_sumOf_ok 6 rfl) rfl (by decide) rfl ?_
        refine go_iconst (v := nI 0) (q := 10) (gDec iX11_sumOf_ok 7 rfl) (by decide) rfl ?_
        refine go_top (v' := nI 0) (rfl) ?_
        refine go_ialdN (q := 11) (gDec iX11_sumOf_ok 8 rfl) rfl (by decide) (by omega) (by decide) rfl ?_
        refine go_top (v' := nI (gNg τ)) (hM.ng hW) ?_
        refine go_icmp_ge (t := 99) (q := 14) (gDec iX11_sumOf_ok 9 rfl) (by decide) rfl (fun c11 => False.elim (nI_ge (a := i) (b := gNg τ) (by omega) (by omega) c11)) (fun c11 => ?_)
        refine go_iload_n (q := 15) (gDec iX11_sumOf_ok 10 rfl) rfl rfl rfl ?_
        refine go_iload_n (q := 16) (gDec iX11_sumOf_ok 11 rfl) rfl rfl rfl ?_
        refine go_iconst (v := nI 1) (q := 17) (gDec iX11_sumOf_ok 12 rfl) (by decide) rfl ?_
        refine go_icmp_ne (t := 29) (q := 20) (gDec iX11_sumOf_ok 13 rfl) (by decide) rfl (fun c17 => ?_) (fun c17 => False.elim (absurd c17 (by decide)))
        refine go_iload_n (q := 30) (gDec iX11_sumOf_ok 19 rfl) rfl rfl rfl ?_
        refine go_iconst (v := nI 2) (q := 31) (gDec iX11_sumOf_ok 20 rfl) (by decide) rfl ?_
        refine go_icmp_ne (t := 42) (q := 34) (gDec iX11_sumOf_ok 21 rfl) (by decide) rfl (fun c31 => ?_) (fun c31 => False.elim (absurd c31 (by decide)))
        refine go_iload_n (q := 43) (gDec iX11_sumOf_ok 26 rfl) rfl rfl rfl ?_
        refine go_bipush (v := nI 7) (q := 45) (gDec iX11_sumOf_ok 27 rfl) (by decide) rfl ?_
        refine go_icmp_ne (t := 58) (q := 48) (gDec iX11_sumOf_ok 28 rfl) (by decide) rfl (fun c45 => ?_) (fun c45 => False.elim (absurd c45 (by decide)))
        refine go_aload_n (q := 59) (gDec iX11_sumOf_ok 34 rfl) rfl rfl rfl ?_
        refine go_iconst (v := nI 2) (q := 60) (gDec iX11_sumOf_ok 35 rfl) (by decide) rfl ?_
        refine go_iload_n (q := 61) (gDec iX11_sumOf_ok 36 rfl) rfl rfl rfl ?_
        refine go_imulN (c := 2 * i) (q := 62) (gDec iX11_sumOf_ok 37 rfl) rfl rfl ?_
        refine go_callV (n2 := 0) (q := 65) kX11_138 (ctX11_followed (b := 2 * i) hC hM (by omega)) (gDec iX11_sumOf_ok 38 rfl) rfl rfl (by decide) rfl rfl rfl (Nat.le_of_ble_eq_true rfl) rfl (gFit_rm (by decide) (by decide)) rfl ?_
        refine go_top (v' := -1) (by rw [hl0]; rfl) ?_
        refine go_if_lt (t := 72) (q := 68) (gDec iX11_sumOf_ok 39 rfl) (by decide) rfl (fun c65 => ?_) (fun c65 => False.elim (c65 (by decide)))
        refine go_iconst (v := 0) (q := 73) (gDec iX11_sumOf_ok 42 rfl) (by decide) rfl ?_
        refine go_aload_n (q := 74) (gDec iX11_sumOf_ok 43 rfl) rfl rfl rfl ?_
        refine go_iconst (v := nI 2) (q := 75) (gDec iX11_sumOf_ok 44 rfl) (by decide) rfl ?_
        refine go_iload_n (q := 76) (gDec iX11_sumOf_ok 45 rfl) rfl rfl rfl ?_
        refine go_imulN (c := 2 * i) (q := 77) (gDec iX11_sumOf_ok 46 rfl) rfl rfl ?_
        refine go_iconst (v := nI 1) (q := 78) (gDec iX11_sumOf_ok 47 rfl) (by decide) rfl ?_
        refine go_iaddN (c := 2 * i + 1) (q := 79) (gDec iX11_sumOf_ok 48 rfl) rfl rfl ?_
        refine go_callV (n2 := 0) (q := 82) kX11_138 (ctX11_followed (b := 2 * i + 1) hC hM (by omega)) (gDec iX11_sumOf_ok 49 rfl) rfl rfl (by decide) rfl rfl rfl (Nat.le_of_ble_eq_true rfl) rfl (gFit_rm (by decide) (by decide)) rfl ?_
        refine go_top (v' := nI f1) (by rw [hl1]; rfl) ?_
        refine go_if_lt (t := 89) (q := 85) (gDec iX11_sumOf_ok 50 rfl) (by decide) rfl (fun c82 => False.elim (nI_pos (by omega) c82)) (fun c82 => ?_)
        refine go_iconst (v := 1) (q := 86) (gDec iX11_sumOf_ok 51 rfl) (by decide) rfl ?_
        refine go_goto (t := 90) (gDec iX11_sumOf_ok 52 rfl) (by decide) ?_
        refine go_iadd (q := 91) (gDec iX11_sumOf_ok 54 rfl) rfl ?_
        refine go_top (v' := gSuS τ 3 i) (by unfold gSuS; rw [if_neg (by decide), if_neg (by decide), if_neg (by decide), hl0, hl1]; rfl) ?_
        refine go_iadd (q := 92) (gDec iX11_sumOf_ok 55 rfl) rfl ?_
        refine go_istore_n (q := 93) (gDec iX11_sumOf_ok 56 rfl) rfl (by decide) rfl ?_
        refine go_iinc (v := nI (i + 1)) (q := 96) (gDec iX11_sumOf_ok 57 rfl) rfl (nI_1 _) (by decide) rfl ?_
        refine go_goto (t := 4) (gDec iX11_sumOf_ok 58 rfl) (by decide) ?_
        refine go_sub (L' := [(0, .ref (κ.2.1 + 376)), (1, .int (nI 3)), (2, .int ((fun g a => a + gSuS τ 3 g) i a)), (3, .int (nI (i + 1)))]) ⟨rfl, rfl, rfl, rfl, trivial⟩ ?_
        exact ih (i + 1) ((fun g a => a + gSuS τ 3 g) i a) (by omega) h
    | some f0 =>
      have hf0 := hC.lw.1 _ f0 (show 2 * i < 2 * gNg τ by omega) hl0
      cases hl1 : gLe τ (2 * i + 1) with
      | none =>
        refine go_iload_n (q := 5) (gDec iX11_sumOf_ok 4 rfl) rfl rfl rfl ?_
        refine go_aload_n (q := 6) (gDec iX11_sumOf_ok 5 rfl) rfl rfl rfl ?_
        refine go_getr (r' := 377) (q := 9) fX11_9 (gDec iX11_sumOf_ok 6 rfl) rfl (by decide) rfl ?_
        refine go_iconst (v := nI 0) (q := 10) (gDec iX11_sumOf_ok 7 rfl) (by decide) rfl ?_
        refine go_top (v' := nI 0) (rfl) ?_
        refine go_ialdN (q := 11) (gDec iX11_sumOf_ok 8 rfl) rfl (by decide) (by omega) (by decide) rfl ?_
        refine go_top (v' := nI (gNg τ)) (hM.ng hW) ?_
        refine go_icmp_ge (t := 99) (q := 14) (gDec iX11_sumOf_ok 9 rfl) (by decide) rfl (fun c11 => False.elim (nI_ge (a := i) (b := gNg τ) (by omega) (by omega) c11)) (fun c11 => ?_)
        refine go_iload_n (q := 15) (gDec iX11_sumOf_ok 10 rfl) rfl rfl rfl ?_
        refine go_iload_n (q := 16) (gDec iX11_sumOf_ok 11 rfl) rfl rfl rfl ?_
        refine go_iconst (v := nI 1) (q := 17) (gDec iX11_sumOf_ok 12 rfl) (by decide) rfl ?_
        refine go_icmp_ne (t := 29) (q := 20) (gDec iX11_sumOf_ok 13 rfl) (by decide) rfl (fun c17 => ?_) (fun c17 => False.elim (absurd c17 (by decide)))
        refine go_iload_n (q := 30) (gDec iX11_sumOf_ok 19 rfl) rfl rfl rfl ?_
        refine go_iconst (v := nI 2) (q := 31) (gDec iX11_sumOf_ok 20 rfl) (by decide) rfl ?_
        refine go_icmp_ne (t := 42) (q := 34) (gDec iX11_sumOf_ok 21 rfl) (by decide) rfl (fun c31 => ?_) (fun c31 => False.elim (absurd c31 (by decide)))
        refine go_iload_n (q := 43) (gDec iX11_sumOf_ok 26 rfl) rfl rfl rfl ?_
        refine go_bipush (v := nI 7) (q := 45) (gDec iX11_sumOf_ok 27 rfl) (by decide) rfl ?_
        refine go_icmp_ne (t := 58) (q := 48) (gDec iX11_sumOf_ok 28 rfl) (by decide) rfl (fun c45 => ?_) (fun c45 => False.elim (absurd c45 (by decide)))
        refine go_aload_n (q := 59) (gDec iX11_sumOf_ok 34 rfl) rfl rfl rfl ?_
        refine go_iconst (v := nI 2) (q := 60) (gDec iX11_sumOf_ok 35 rfl) (by decide) rfl ?_
        refine go_iload_n (q := 61) (gDec iX11_sumOf_ok 36 rfl) rfl rfl rfl ?_
        refine go_imulN (c := 2 * i) (q := 62) (gDec iX11_sumOf_ok 37 rfl) rfl rfl ?_
        refine go_callV (n2 := 0) (q := 65) kX11_138 (ctX11_followed (b := 2 * i) hC hM (by omega)) (gDec iX11_sumOf_ok 38 rfl) rfl rfl (by decide) rfl rfl rfl (Nat.le_of_ble_eq_true rfl) rfl (gFit_rm (by decide) (by decide)) rfl ?_
        refine go_top (v' := nI f0) (by rw [hl0]; rfl) ?_
        refine go_if_lt (t := 72) (q := 68) (gDec iX11_sumOf_ok 39 rfl) (by decide) rfl (fun c65 => False.elim (nI_pos (by omega) c65)) (fun c65 => ?_)
        refine go_iconst (v := 1) (q := 69) (gDec iX11_sumOf_ok 40 rfl) (by decide) rfl ?_
        refine go_goto (t := 73) (gDec iX11_sumOf_ok 41 rfl) (by decide) ?_
        refine go_aload_n (q := 74) (gDec iX11_sumOf_ok 43 rfl) rfl rfl rfl ?_
        refine go_iconst (v := nI 2) (q := 75) (gDec iX11_sumOf_ok 44 rfl) (by decide) rfl ?_
        refine go_iload_n (q := 76) (gDec iX11_sumOf_ok 45 rfl) rfl rfl rfl ?_
        refine go_imulN (c := 2 * i) (q := 77) (gDec iX11_sumOf_ok 46 rfl) rfl rfl ?_
        refine go_iconst (v := nI 1) (q := 78) (gDec iX11_sumOf_ok 47 rfl) (by decide) rfl ?_
        refine go_iaddN (c := 2 * i + 1) (q := 79) (gDec iX11_sumOf_ok 48 rfl) rfl rfl ?_
        refine go_callV (n2 := 0) (q := 82) kX11_138 (ctX11_followed (b := 2 * i + 1) hC hM (by omega)) (gDec iX11_sumOf_ok 49 rfl) rfl rfl (by decide) rfl rfl rfl (Nat.le_of_ble_eq_true rfl) rfl (gFit_rm (by decide) (by decide)) rfl ?_
        refine go_top (v' := -1) (by rw [hl1]; rfl) ?_
        refine go_if_lt (t := 89) (q := 85) (gDec iX11_sumOf_ok 50 rfl) (by decide) rfl (fun c82 => ?_) (fun c82 => False.elim (c82 (by decide)))
        refine go_iconst (v := 0) (q := 90) (gDec iX11_sumOf_ok 53 rfl) (by decide) rfl ?_
        refine go_iadd (q := 91) (gDec iX11_sumOf_ok 54 rfl) rfl ?_
        refine go_top (v' := gSuS τ 3 i) (by unfold gSuS; rw [if_neg (by decide), if_neg (by decide), if_neg (by decide), hl0, hl1]; rfl) ?_
        refine go_iadd (q := 92) (gDec iX11_sumOf_ok 55 rfl) rfl ?_
        refine go_istore_n (q := 93) (gDec iX11_sumOf_ok 56 rfl) rfl (by decide) rfl ?_
        refine go_iinc (v := nI (i + 1)) (q := 96) (gDec iX11_sumOf_ok 57 rfl) rfl (nI_1 _) (by decide) rfl ?_
        refine go_goto (t := 4) (gDec iX11_sumOf_ok 58 rfl) (by decide) ?_
        refine go_sub (L' := [(0, .ref (κ.2.1 + 376)), (1, .int (nI 3)), (2, .int ((fun g a => a + gSuS τ 3 g) i a)), (3, .int (nI (i + 1)))]) ⟨rfl, rfl, rfl, rfl, trivial⟩ ?_
        exact ih (i + 1) ((fun g a => a + gSuS τ 3 g) i a) (by omega) h
      | some f1 =>
        have hf1 := hC.lw.1 _ f1 (show 2 * i + 1 < 2 * gNg τ by omega) hl1
        refine go_iload_n (q := 5) (gDec iX11_sumOf_ok 4 rfl) rfl rfl rfl ?_
        refine go_aload_n (q := 6) (gDec iX11_sumOf_ok 5 rfl) rfl rfl rfl ?_
        refine go_getr (r' := 377) (q := 9) fX11_9 (gDec iX11_sumOf_ok 6 rfl) rfl (by decide) rfl ?_
        refine go_iconst (v := nI 0) (q := 10) (gDec iX11_sumOf_ok 7 rfl) (by decide) rfl ?_
        refine go_top (v' := nI 0) (rfl) ?_
        refine go_ialdN (q := 11) (gDec iX11_sumOf_ok 8 rfl) rfl (by decide) (by omega) (by decide) rfl ?_
        refine go_top (v' := nI (gNg τ)) (hM.ng hW) ?_
        refine go_icmp_ge (t := 99) (q := 14) (gDec iX11_sumOf_ok 9 rfl) (by decide) rfl (fun c11 => False.elim (nI_ge (a := i) (b := gNg τ) (by omega) (by omega) c11)) (fun c11 => ?_)
        refine go_iload_n (q := 15) (gDec iX11_sumOf_ok 10 rfl) rfl rfl rfl ?_
        refine go_iload_n (q := 16) (gDec iX11_sumOf_ok 11 rfl) rfl rfl rfl ?_
        refine go_iconst (v := nI 1) (q := 17) (gDec iX11_sumOf_ok 12 rfl) (by decide) rfl ?_
        refine go_icmp_ne (t := 29) (q := 20) (gDec iX11_sumOf_ok 13 rfl) (by decide) rfl (fun c17 => ?_) (fun c17 => False.elim (absurd c17 (by decide)))
        refine go_iload_n (q := 30) (gDec iX11_sumOf_ok 19 rfl) rfl rfl rfl ?_
        refine go_iconst (v := nI 2) (q := 31) (gDec iX11_sumOf_ok 20 rfl) (by decide) rfl ?_
        refine go_icmp_ne (t := 42) (q := 34) (gDec iX11_sumOf_ok 21 rfl) (by decide) rfl (fun c31 => ?_) (fun c31 => False.elim (absurd c31 (by decide)))
        refine go_iload_n (q := 43) (gDec iX11_sumOf_ok 26 rfl) rfl rfl rfl ?_
        refine go_bipush (v := nI 7) (q := 45) (gDec iX11_sumOf_ok 27 rfl) (by decide) rfl ?_
        refine go_icmp_ne (t := 58) (q := 48) (gDec iX11_sumOf_ok 28 rfl) (by decide) rfl (fun c45 => ?_) (fun c45 => False.elim (absurd c45 (by decide)))
        refine go_aload_n (q := 59) (gDec iX11_sumOf_ok 34 rfl) rfl rfl rfl ?_
        refine go_iconst (v := nI 2) (q := 60) (gDec iX11_sumOf_ok 35 rfl) (by decide) rfl ?_
        refine go_iload_n (q := 61) (gDec iX11_sumOf_ok 36 rfl) rfl rfl rfl ?_
        refine go_imulN (c := 2 * i) (q := 62) (gDec iX11_sumOf_ok 37 rfl) rfl rfl ?_
        refine go_callV (n2 := 0) (q := 65) kX11_138 (ctX11_followed (b := 2 * i) hC hM (by omega)) (gDec iX11_sumOf_ok 38 rfl) rfl rfl (by decide) rfl rfl rfl (Nat.le_of_ble_eq_true rfl) rfl (gFit_rm (by decide) (by decide)) rfl ?_
        refine go_top (v' := nI f0) (by rw [hl0]; rfl) ?_
        refine go_if_lt (t := 72) (q := 68) (gDec iX11_sumOf_ok 39 rfl) (by decide) rfl (fun c65 => False.elim (nI_pos (by omega) c65)) (fun c65 => ?_)
        refine go_iconst (v := 1) (q := 69) (gDec iX11_sumOf_ok 40 rfl) (by decide) rfl ?_
        refine go_goto (t := 73) (gDec iX11_sumOf_ok 41 rfl) (by decide) ?_
        refine go_aload_n (q := 74) (gDec iX11_sumOf_ok 43 rfl) rfl rfl rfl ?_
        refine go_iconst (v := nI 2) (q := 75) (gDec iX11_sumOf_ok 44 rfl) (by decide) rfl ?_
        refine go_iload_n (q := 76) (gDec iX11_sumOf_ok 45 rfl) rfl rfl rfl ?_
        refine go_imulN (c := 2 * i) (q := 77) (gDec iX11_sumOf_ok 46 rfl) rfl rfl ?_
        refine go_iconst (v := nI 1) (q := 78) (gDec iX11_sumOf_ok 47 rfl) (by decide) rfl ?_
        refine go_iaddN (c := 2 * i + 1) (q := 79) (gDec iX11_sumOf_ok 48 rfl) rfl rfl ?_
        refine go_callV (n2 := 0) (q := 82) kX11_138 (ctX11_followed (b := 2 * i + 1) hC hM (by omega)) (gDec iX11_sumOf_ok 49 rfl) rfl rfl (by decide) rfl rfl rfl (Nat.le_of_ble_eq_true rfl) rfl (gFit_rm (by decide) (by decide)) rfl ?_
        refine go_top (v' := nI f1) (by rw [hl1]; rfl) ?_
        refine go_if_lt (t := 89) (q := 85) (gDec iX11_sumOf_ok 50 rfl) (by decide) rfl (fun c82 => False.elim (nI_pos (by omega) c82)) (fun c82 => ?_)
        refine go_iconst (v := 1) (q := 86) (gDec iX11_sumOf_ok 51 rfl) (by decide) rfl ?_
        refine go_goto (t := 90) (gDec iX11_sumOf_ok 52 rfl) (by decide) ?_
        refine go_iadd (q := 91) (gDec iX11_sumOf_ok 54 rfl) rfl ?_
        refine go_top (v' := gSuS τ 3 i) (by unfold gSuS; rw [if_neg (by decide), if_neg (by decide), if_neg (by decide), hl0, hl1]; rfl) ?_
        refine go_iadd (q := 92) (gDec iX11_sumOf_ok 55 rfl) rfl ?_
        refine go_istore_n (q := 93) (gDec iX11_sumOf_ok 56 rfl) rfl (by decide) rfl ?_
        refine go_iinc (v := nI (i + 1)) (q := 96) (gDec iX11_sumOf_ok 57 rfl) rfl (nI_1 _) (by decide) rfl ?_
        refine go_goto (t := 4) (gDec iX11_sumOf_ok 58 rfl) (by decide) ?_
        refine go_sub (L' := [(0, .ref (κ.2.1 + 376)), (1, .int (nI 3)), (2, .int ((fun g a => a + gSuS τ 3 g) i a)), (3, .int (nI (i + 1)))]) ⟨rfl, rfl, rfl, rfl, trivial⟩ ?_
        exact ih (i + 1) ((fun g a => a + gSuS τ 3 g) i a) (by omega) h


set_option maxHeartbeats 4000000 in
set_option maxRecDepth 100000 in
theorem ctX11_sumOf3 {κ : gK} {σ : gST} {τ : gST} (hC : gCI τ) (hM : gMR τ (σ.1 377)) : gCt κ mX11_sumOf 6 [.ref (κ.2.1 + 376), .int (nI 3)] σ (.inl (some (.int (gLoop (fun g a => a + gSuS τ 3 g) 0 (gNg τ) 0)))) σ 0 := by
  refine ct_of (by decide +kernel) rfl (Nat.le_of_ble_eq_true rfl) rfl ?_
  refine go_iconst (v := 0) (q := 1) (gDec iX11_sumOf_ok 0 rfl) (by decide) rfl ?_
  refine go_istore_n (q := 2) (gDec iX11_sumOf_ok 1 rfl) rfl (by decide) rfl ?_
  refine go_iconst (v := nI 0) (q := 3) (gDec iX11_sumOf_ok 2 rfl) (by decide) rfl ?_
  refine go_istore_n (q := 4) (gDec iX11_sumOf_ok 3 rfl) rfl (by decide) rfl ?_
  refine go_sub (L' := [(0, .ref (κ.2.1 + 376)), (1, .int (nI 3)), (2, .int 0), (3, .int (nI 0))]) ⟨rfl, rfl, rfl, rfl, trivial⟩ ?_
  refine lpX11_sumOf3 hC hM (gNg τ) 0 0 (by omega) ?_
  refine go_iload_n (q := 100) (gDec iX11_sumOf_ok 59 rfl) rfl rfl rfl ?_
  exact go_ireturn (gDec iX11_sumOf_ok 60 rfl) rfl rfl rfl rfl (by decide)

theorem gRul_2 {τ : gST} : ∀ (m i : Nat) (a : Int32), gLoop (fun at_ a => if gLe τ at_ = none then a else a + 1) (2 * i) (2 * m) a = gLoop (fun g a => a + gSuS τ 3 g) i m a
  | 0, _, _ => rfl
  | m + 1, i, a => by
    rw [show 2 * (m + 1) = 2 * m + 1 + 1 by omega]
    show gLoop _ (2 * i + 1 + 1) (2 * m) _ = gLoop _ (i + 1) m (a + gSuS τ 3 i)
    rw [show 2 * i + 1 + 1 = 2 * (i + 1) by omega, gRul_2 m (i + 1)]
    congr 1
    unfold gSuS
    rw [if_neg (by decide), if_neg (by decide), if_neg (by decide)]
    cases h0 : gLe τ (2 * i) with
    | none =>
      cases h1 : gLe τ (2 * i + 1) with
      | none => simp [oB, h0, h1]
      | some y => simp [oB, h0, h1]
    | some x =>
      cases h1 : gLe τ (2 * i + 1) with
      | none => simp [oB, h0, h1]
      | some y => simp [oB, h0, h1, Int32.add_assoc]
theorem gRul_eq {τ : gST} (hC : gCI τ) : gLoop (fun at_ a => if gLe τ at_ = none then a else a + 1) 0 48 0 = gLoop (fun g a => a + gSuS τ 3 g) 0 (gNg τ) 0 := by
  have h24 := hC.dw.ng24
  have h := gLoop_add (s := fun at_ a => if gLe τ at_ = none then a else a + 1) (2 * gNg τ) (48 - 2 * gNg τ) 0 (0 : Int32)
  rw [show 2 * gNg τ + (48 - 2 * gNg τ) = 48 by omega] at h
  rw [h, gLoop_id]
  · exact gRul_2 (gNg τ) 0 0
  · intro k h1 h2 b
    rw [if_pos (hC.lw.2.2 k (by omega) (by omega))]
theorem gStm_eq {τ : gST} (hC : gCI τ) : gLoop (fun g a => a + τ.1 31 g) 0 24 0 = gLoop (fun g a => a + τ.1 31 g) 0 (gNg τ) 0 := by
  have h24 := hC.dw.ng24
  have h := gLoop_add (s := fun g a => a + τ.1 31 g) (gNg τ) (24 - gNg τ) 0 (0 : Int32)
  rw [show gNg τ + (24 - gNg τ) = 24 by omega] at h
  rw [h, gLoop_id]
  intro k h1 h2 b
  rw [(hC.gw.2 k (by omega) (by omega)).2.1]
  exact Int32.add_zero b

set_option maxHeartbeats 4000000 in
set_option maxRecDepth 100000 in
theorem ctX11_account {κ : gK} {σ τ : gST} {w : Int32} (hC : gCI τ) (hM : gMR τ (σ.1 377)) : gCt κ mX11_account 9 [.ref (κ.2.1 + 376), .int w] σ (rI (aI (fAccount τ w).1)) (gPut σ 376 5 (xC kA (fAccount τ w).1)) 0 := by
  have hW := hC.dw
  have h24 := hW.ng24
  refine ct_of (by decide +kernel) rfl (Nat.le_of_ble_eq_true rfl) rfl ?_
  by_cases h1 : 0 ≤ w.toInt ∧ w.toInt ≤ 8
  · have hs : fAccount τ w = _ := if_pos h1
    rw [hs]
    obtain ⟨k, hk, rfl⟩ := gIn_ex (n := 9) (show 0 ≤ w.toInt ∧ w.toInt ≤ ((9 : Nat) : Int) - 1 from h1)
    rw [nA_nI (n := k) (by omega)]
    rcases (by omega : k = 0 ∨ k = 1 ∨ k = 2 ∨ k = 3 ∨ k = 4 ∨ k = 5 ∨ k = 6 ∨ k = 7 ∨ k = 8) with h9 | h9 | h9 | h9 | h9 | h9 | h9 | h9 | h9 <;> subst h9
    · skip
      refine go_aload_n (q := 1) (gDec iX11_account_ok 0 rfl) rfl rfl rfl ?_
      refine go_iload_n (q := 2) (gDec iX11_account_ok 1 rfl) rfl rfl rfl ?_
      refine go_i2l (q := 3) (gDec iX11_account_ok 2 rfl) rfl ?_
      refine go_iconst (v := nI 0) (q := 4) (gDec iX11_account_ok 3 rfl) (by decide) rfl ?_
      refine go_bipush (v := nI 8) (q := 6) (gDec iX11_account_ok 4 rfl) (by decide) rfl ?_
      refine go_callS (n2 := 0) (q := 9) kX11_57 ctX11_in (gDec iX11_account_ok 5 rfl) rfl rfl (Nat.le_of_ble_eq_true rfl) rfl (gFit_rm (by decide) (by decide)) rfl ?_
      refine go_top (v' := 1) (gWi_t (by (try rw [i2l_toInt]); exact h1)) ?_
      refine go_if_eq (t := 16) (q := 12) (gDec iX11_account_ok 6 rfl) (by decide) rfl (fun c9 => False.elim (absurd c9 (by decide))) (fun c9 => ?_)
      refine go_iconst (v := nI 0) (q := 13) (gDec iX11_account_ok 7 rfl) (by decide) rfl ?_
      refine go_goto (t := 17) (gDec iX11_account_ok 8 rfl) (by decide) ?_
      refine go_puti (q := 20) fX11_54 gft11 (gDec iX11_account_ok 10 rfl) rfl (by decide) rfl rfl rfl rfl ?_
      refine go_aload_n (q := 21) (gDec iX11_account_ok 11 rfl) rfl rfl rfl ?_
      refine go_geti (q := 24) fX11_54 (gDec iX11_account_ok 12 rfl) rfl (by decide) rfl ?_
      refine go_top (v' := nI 0) rfl ?_
      refine go_if_le (t := 29) (q := 27) (gDec iX11_account_ok 13 rfl) (by decide) rfl (fun c24 => ?_) (fun c24 => False.elim (c24 (by decide)))
      refine go_iload_n (q := 30) (gDec iX11_account_ok 16 rfl) rfl rfl rfl ?_
      refine go_tableIn (off := 50) (t := 80) (gDec iX11_account_ok 17 rfl) (by decide) (by decide) rfl (by decide) ?_
      refine go_aload_n (q := 81) (gDec iX11_account_ok 18 rfl) rfl rfl rfl ?_
      refine go_getr (r' := 377) (q := 84) fX11_9 (gDec iX11_account_ok 19 rfl) rfl (by decide) rfl ?_
      refine go_iconst (v := nI 0) (q := 85) (gDec iX11_account_ok 20 rfl) (by decide) rfl ?_
      refine go_top (v' := nI 0) (rfl) ?_
      refine go_ialdN (q := 86) (gDec iX11_account_ok 21 rfl) rfl (by decide) (by omega) (by decide) rfl ?_
      exact go_ireturn (gDec iX11_account_ok 22 rfl) rfl rfl (by rw [show (gPut σ 376 5 (nI 0)).1 377 0 = τ.1 2 5 from hM.1.1]; rfl) rfl (by decide)
    · skip
      refine go_aload_n (q := 1) (gDec iX11_account_ok 0 rfl) rfl rfl rfl ?_
      refine go_iload_n (q := 2) (gDec iX11_account_ok 1 rfl) rfl rfl rfl ?_
      refine go_i2l (q := 3) (gDec iX11_account_ok 2 rfl) rfl ?_
      refine go_iconst (v := nI 0) (q := 4) (gDec iX11_account_ok 3 rfl) (by decide) rfl ?_
      refine go_bipush (v := nI 8) (q := 6) (gDec iX11_account_ok 4 rfl) (by decide) rfl ?_
      refine go_callS (n2 := 0) (q := 9) kX11_57 ctX11_in (gDec iX11_account_ok 5 rfl) rfl rfl (Nat.le_of_ble_eq_true rfl) rfl (gFit_rm (by decide) (by decide)) rfl ?_
      refine go_top (v' := 1) (gWi_t (by (try rw [i2l_toInt]); exact h1)) ?_
      refine go_if_eq (t := 16) (q := 12) (gDec iX11_account_ok 6 rfl) (by decide) rfl (fun c9 => False.elim (absurd c9 (by decide))) (fun c9 => ?_)
      refine go_iconst (v := nI 0) (q := 13) (gDec iX11_account_ok 7 rfl) (by decide) rfl ?_
      refine go_goto (t := 17) (gDec iX11_account_ok 8 rfl) (by decide) ?_
      refine go_puti (q := 20) fX11_54 gft11 (gDec iX11_account_ok 10 rfl) rfl (by decide) rfl rfl rfl rfl ?_
      refine go_aload_n (q := 21) (gDec iX11_account_ok 11 rfl) rfl rfl rfl ?_
      refine go_geti (q := 24) fX11_54 (gDec iX11_account_ok 12 rfl) rfl (by decide) rfl ?_
      refine go_top (v' := nI 0) rfl ?_
      refine go_if_le (t := 29) (q := 27) (gDec iX11_account_ok 13 rfl) (by decide) rfl (fun c24 => ?_) (fun c24 => False.elim (c24 (by decide)))
      refine go_iload_n (q := 30) (gDec iX11_account_ok 16 rfl) rfl rfl rfl ?_
      refine go_tableIn (off := 79) (t := 109) (gDec iX11_account_ok 17 rfl) (by decide) (by decide) rfl (by decide) ?_
      refine go_aload_n (q := 110) (gDec iX11_account_ok 37 rfl) rfl rfl rfl ?_
      refine go_iload_n (q := 111) (gDec iX11_account_ok 38 rfl) rfl rfl rfl ?_
      refine go_callV (n2 := 0) (q := 114) kX11_241 (ctX11_sumOf1 (τ := τ) hC (gMRt hM)) (gDec iX11_account_ok 39 rfl) rfl rfl (by decide) rfl rfl rfl (Nat.le_of_ble_eq_true rfl) rfl (gFit_rm (by decide) (by decide)) rfl ?_
      exact go_ireturn (gDec iX11_account_ok 40 rfl) rfl rfl rfl rfl (by decide)
    · skip
      refine go_aload_n (q := 1) (gDec iX11_account_ok 0 rfl) rfl rfl rfl ?_
      refine go_iload_n (q := 2) (gDec iX11_account_ok 1 rfl) rfl rfl rfl ?_
      refine go_i2l (q := 3) (gDec iX11_account_ok 2 rfl) rfl ?_
      refine go_iconst (v := nI 0) (q := 4) (gDec iX11_account_ok 3 rfl) (by decide) rfl ?_
      refine go_bipush (v := nI 8) (q := 6) (gDec iX11_account_ok 4 rfl) (by decide) rfl ?_
      refine go_callS (n2 := 0) (q := 9) kX11_57 ctX11_in (gDec iX11_account_ok 5 rfl) rfl rfl (Nat.le_of_ble_eq_true rfl) rfl (gFit_rm (by decide) (by decide)) rfl ?_
      refine go_top (v' := 1) (gWi_t (by (try rw [i2l_toInt]); exact h1)) ?_
      refine go_if_eq (t := 16) (q := 12) (gDec iX11_account_ok 6 rfl) (by decide) rfl (fun c9 => False.elim (absurd c9 (by decide))) (fun c9 => ?_)
      refine go_iconst (v := nI 0) (q := 13) (gDec iX11_account_ok 7 rfl) (by decide) rfl ?_
      refine go_goto (t := 17) (gDec iX11_account_ok 8 rfl) (by decide) ?_
      refine go_puti (q := 20) fX11_54 gft11 (gDec iX11_account_ok 10 rfl) rfl (by decide) rfl rfl rfl rfl ?_
      refine go_aload_n (q := 21) (gDec iX11_account_ok 11 rfl) rfl rfl rfl ?_
      refine go_geti (q := 24) fX11_54 (gDec iX11_account_ok 12 rfl) rfl (by decide) rfl ?_
      refine go_top (v' := nI 0) rfl ?_
      refine go_if_le (t := 29) (q := 27) (gDec iX11_account_ok 13 rfl) (by decide) rfl (fun c24 => ?_) (fun c24 => False.elim (c24 (by decide)))
      refine go_iload_n (q := 30) (gDec iX11_account_ok 16 rfl) rfl rfl rfl ?_
      refine go_tableIn (off := 79) (t := 109) (gDec iX11_account_ok 17 rfl) (by decide) (by decide) rfl (by decide) ?_
      refine go_aload_n (q := 110) (gDec iX11_account_ok 37 rfl) rfl rfl rfl ?_
      refine go_iload_n (q := 111) (gDec iX11_account_ok 38 rfl) rfl rfl rfl ?_
      refine go_callV (n2 := 0) (q := 114) kX11_241 (ctX11_sumOf2 (τ := τ) hC (gMRt hM)) (gDec iX11_account_ok 39 rfl) rfl rfl (by decide) rfl rfl rfl (Nat.le_of_ble_eq_true rfl) rfl (gFit_rm (by decide) (by decide)) rfl ?_
      exact go_ireturn (gDec iX11_account_ok 40 rfl) rfl rfl rfl rfl (by decide)
    · skip
      refine go_aload_n (q := 1) (gDec iX11_account_ok 0 rfl) rfl rfl rfl ?_
      refine go_iload_n (q := 2) (gDec iX11_account_ok 1 rfl) rfl rfl rfl ?_
      refine go_i2l (q := 3) (gDec iX11_account_ok 2 rfl) rfl ?_
      refine go_iconst (v := nI 0) (q := 4) (gDec iX11_account_ok 3 rfl) (by decide) rfl ?_
      refine go_bipush (v := nI 8) (q := 6) (gDec iX11_account_ok 4 rfl) (by decide) rfl ?_
      refine go_callS (n2 := 0) (q := 9) kX11_57 ctX11_in (gDec iX11_account_ok 5 rfl) rfl rfl (Nat.le_of_ble_eq_true rfl) rfl (gFit_rm (by decide) (by decide)) rfl ?_
      refine go_top (v' := 1) (gWi_t (by (try rw [i2l_toInt]); exact h1)) ?_
      refine go_if_eq (t := 16) (q := 12) (gDec iX11_account_ok 6 rfl) (by decide) rfl (fun c9 => False.elim (absurd c9 (by decide))) (fun c9 => ?_)
      refine go_iconst (v := nI 0) (q := 13) (gDec iX11_account_ok 7 rfl) (by decide) rfl ?_
      refine go_goto (t := 17) (gDec iX11_account_ok 8 rfl) (by decide) ?_
      refine go_puti (q := 20) fX11_54 gft11 (gDec iX11_account_ok 10 rfl) rfl (by decide) rfl rfl rfl rfl ?_
      refine go_aload_n (q := 21) (gDec iX11_account_ok 11 rfl) rfl rfl rfl ?_
      refine go_geti (q := 24) fX11_54 (gDec iX11_account_ok 12 rfl) rfl (by decide) rfl ?_
      refine go_top (v' := nI 0) rfl ?_
      refine go_if_le (t := 29) (q := 27) (gDec iX11_account_ok 13 rfl) (by decide) rfl (fun c24 => ?_) (fun c24 => False.elim (c24 (by decide)))
      refine go_iload_n (q := 30) (gDec iX11_account_ok 16 rfl) rfl rfl rfl ?_
      refine go_tableIn (off := 79) (t := 109) (gDec iX11_account_ok 17 rfl) (by decide) (by decide) rfl (by decide) ?_
      refine go_aload_n (q := 110) (gDec iX11_account_ok 37 rfl) rfl rfl rfl ?_
      refine go_iload_n (q := 111) (gDec iX11_account_ok 38 rfl) rfl rfl rfl ?_
      refine go_callV (n2 := 0) (q := 114) kX11_241 (ctX11_sumOf3 (τ := τ) hC (gMRt hM)) (gDec iX11_account_ok 39 rfl) rfl rfl (by decide) rfl rfl rfl (Nat.le_of_ble_eq_true rfl) rfl (gFit_rm (by decide) (by decide)) rfl ?_
      exact go_ireturn (gDec iX11_account_ok 40 rfl) rfl rfl (by rw [← gRul_eq hC]; rfl) rfl (by decide)
    · skip
      refine go_aload_n (q := 1) (gDec iX11_account_ok 0 rfl) rfl rfl rfl ?_
      refine go_iload_n (q := 2) (gDec iX11_account_ok 1 rfl) rfl rfl rfl ?_
      refine go_i2l (q := 3) (gDec iX11_account_ok 2 rfl) rfl ?_
      refine go_iconst (v := nI 0) (q := 4) (gDec iX11_account_ok 3 rfl) (by decide) rfl ?_
      refine go_bipush (v := nI 8) (q := 6) (gDec iX11_account_ok 4 rfl) (by decide) rfl ?_
      refine go_callS (n2 := 0) (q := 9) kX11_57 ctX11_in (gDec iX11_account_ok 5 rfl) rfl rfl (Nat.le_of_ble_eq_true rfl) rfl (gFit_rm (by decide) (by decide)) rfl ?_
      refine go_top (v' := 1) (gWi_t (by (try rw [i2l_toInt]); exact h1)) ?_
      refine go_if_eq (t := 16) (q := 12) (gDec iX11_account_ok 6 rfl) (by decide) rfl (fun c9 => False.elim (absurd c9 (by decide))) (fun c9 => ?_)
      refine go_iconst (v := nI 0) (q := 13) (gDec iX11_account_ok 7 rfl) (by decide) rfl ?_
      refine go_goto (t := 17) (gDec iX11_account_ok 8 rfl) (by decide) ?_
      refine go_puti (q := 20) fX11_54 gft11 (gDec iX11_account_ok 10 rfl) rfl (by decide) rfl rfl rfl rfl ?_
      refine go_aload_n (q := 21) (gDec iX11_account_ok 11 rfl) rfl rfl rfl ?_
      refine go_geti (q := 24) fX11_54 (gDec iX11_account_ok 12 rfl) rfl (by decide) rfl ?_
      refine go_top (v' := nI 0) rfl ?_
      refine go_if_le (t := 29) (q := 27) (gDec iX11_account_ok 13 rfl) (by decide) rfl (fun c24 => ?_) (fun c24 => False.elim (c24 (by decide)))
      refine go_iload_n (q := 30) (gDec iX11_account_ok 16 rfl) rfl rfl rfl ?_
      refine go_tableIn (off := 57) (t := 87) (gDec iX11_account_ok 17 rfl) (by decide) (by decide) rfl (by decide) ?_
      refine go_aload_n (q := 88) (gDec iX11_account_ok 23 rfl) rfl rfl rfl ?_
      refine go_callV (n2 := 0) (q := 91) kX11_159 (ctX11_classKerns (τ := τ) (gMRt hM)) (gDec iX11_account_ok 24 rfl) rfl rfl (by decide) rfl rfl rfl (Nat.le_of_ble_eq_true rfl) rfl (gFit_rm (by decide) (by decide)) rfl ?_
      exact go_ireturn (gDec iX11_account_ok 25 rfl) rfl rfl (by rw [← hC.kw.2.2.1]; rfl) rfl (by decide)
    · skip
      refine go_aload_n (q := 1) (gDec iX11_account_ok 0 rfl) rfl rfl rfl ?_
      refine go_iload_n (q := 2) (gDec iX11_account_ok 1 rfl) rfl rfl rfl ?_
      refine go_i2l (q := 3) (gDec iX11_account_ok 2 rfl) rfl ?_
      refine go_iconst (v := nI 0) (q := 4) (gDec iX11_account_ok 3 rfl) (by decide) rfl ?_
      refine go_bipush (v := nI 8) (q := 6) (gDec iX11_account_ok 4 rfl) (by decide) rfl ?_
      refine go_callS (n2 := 0) (q := 9) kX11_57 ctX11_in (gDec iX11_account_ok 5 rfl) rfl rfl (Nat.le_of_ble_eq_true rfl) rfl (gFit_rm (by decide) (by decide)) rfl ?_
      refine go_top (v' := 1) (gWi_t (by (try rw [i2l_toInt]); exact h1)) ?_
      refine go_if_eq (t := 16) (q := 12) (gDec iX11_account_ok 6 rfl) (by decide) rfl (fun c9 => False.elim (absurd c9 (by decide))) (fun c9 => ?_)
      refine go_iconst (v := nI 0) (q := 13) (gDec iX11_account_ok 7 rfl) (by decide) rfl ?_
      refine go_goto (t := 17) (gDec iX11_account_ok 8 rfl) (by decide) ?_
      refine go_puti (q := 20) fX11_54 gft11 (gDec iX11_account_ok 10 rfl) rfl (by decide) rfl rfl rfl rfl ?_
      refine go_aload_n (q := 21) (gDec iX11_account_ok 11 rfl) rfl rfl rfl ?_
      refine go_geti (q := 24) fX11_54 (gDec iX11_account_ok 12 rfl) rfl (by decide) rfl ?_
      refine go_top (v' := nI 0) rfl ?_
      refine go_if_le (t := 29) (q := 27) (gDec iX11_account_ok 13 rfl) (by decide) rfl (fun c24 => ?_) (fun c24 => False.elim (c24 (by decide)))
      refine go_iload_n (q := 30) (gDec iX11_account_ok 16 rfl) rfl rfl rfl ?_
      refine go_tableIn (off := 62) (t := 92) (gDec iX11_account_ok 17 rfl) (by decide) (by decide) rfl (by decide) ?_
      refine go_aload_n (q := 93) (gDec iX11_account_ok 26 rfl) rfl rfl rfl ?_
      refine go_getr (r' := 377) (q := 96) fX11_9 (gDec iX11_account_ok 27 rfl) rfl (by decide) rfl ?_
      refine go_iconst (v := nI 3) (q := 97) (gDec iX11_account_ok 28 rfl) (by decide) rfl ?_
      refine go_ialdN (q := 98) (gDec iX11_account_ok 29 rfl) rfl (by decide) (j := 3) (by omega) (by decide) rfl ?_
      exact go_ireturn (gDec iX11_account_ok 30 rfl) rfl rfl (by rw [show (gPut σ 376 5 (nI 0)).1 377 3 = τ.1 20 5 from hM.pn.trans (nA_n hC.kw.2.2.2.1.1).symm]; rfl) rfl (by decide)
    · skip
      refine go_aload_n (q := 1) (gDec iX11_account_ok 0 rfl) rfl rfl rfl ?_
      refine go_iload_n (q := 2) (gDec iX11_account_ok 1 rfl) rfl rfl rfl ?_
      refine go_i2l (q := 3) (gDec iX11_account_ok 2 rfl) rfl ?_
      refine go_iconst (v := nI 0) (q := 4) (gDec iX11_account_ok 3 rfl) (by decide) rfl ?_
      refine go_bipush (v := nI 8) (q := 6) (gDec iX11_account_ok 4 rfl) (by decide) rfl ?_
      refine go_callS (n2 := 0) (q := 9) kX11_57 ctX11_in (gDec iX11_account_ok 5 rfl) rfl rfl (Nat.le_of_ble_eq_true rfl) rfl (gFit_rm (by decide) (by decide)) rfl ?_
      refine go_top (v' := 1) (gWi_t (by (try rw [i2l_toInt]); exact h1)) ?_
      refine go_if_eq (t := 16) (q := 12) (gDec iX11_account_ok 6 rfl) (by decide) rfl (fun c9 => False.elim (absurd c9 (by decide))) (fun c9 => ?_)
      refine go_iconst (v := nI 0) (q := 13) (gDec iX11_account_ok 7 rfl) (by decide) rfl ?_
      refine go_goto (t := 17) (gDec iX11_account_ok 8 rfl) (by decide) ?_
      refine go_puti (q := 20) fX11_54 gft11 (gDec iX11_account_ok 10 rfl) rfl (by decide) rfl rfl rfl rfl ?_
      refine go_aload_n (q := 21) (gDec iX11_account_ok 11 rfl) rfl rfl rfl ?_
      refine go_geti (q := 24) fX11_54 (gDec iX11_account_ok 12 rfl) rfl (by decide) rfl ?_
      refine go_top (v' := nI 0) rfl ?_
      refine go_if_le (t := 29) (q := 27) (gDec iX11_account_ok 13 rfl) (by decide) rfl (fun c24 => ?_) (fun c24 => False.elim (c24 (by decide)))
      refine go_iload_n (q := 30) (gDec iX11_account_ok 16 rfl) rfl rfl rfl ?_
      refine go_tableIn (off := 69) (t := 99) (gDec iX11_account_ok 17 rfl) (by decide) (by decide) rfl (by decide) ?_
      refine go_aload_n (q := 100) (gDec iX11_account_ok 31 rfl) rfl rfl rfl ?_
      refine go_callV (n2 := 0) (q := 103) kX11_238 (ctX11_kernedPairs (τ := τ) hC (gMRt hM)) (gDec iX11_account_ok 32 rfl) rfl rfl (by decide) rfl rfl rfl (Nat.le_of_ble_eq_true rfl) rfl (gFit_rm (by decide) (by decide)) rfl ?_
      exact go_ireturn (gDec iX11_account_ok 33 rfl) rfl rfl rfl rfl (by decide)
    · skip
      refine go_aload_n (q := 1) (gDec iX11_account_ok 0 rfl) rfl rfl rfl ?_
      refine go_iload_n (q := 2) (gDec iX11_account_ok 1 rfl) rfl rfl rfl ?_
      refine go_i2l (q := 3) (gDec iX11_account_ok 2 rfl) rfl ?_
      refine go_iconst (v := nI 0) (q := 4) (gDec iX11_account_ok 3 rfl) (by decide) rfl ?_
      refine go_bipush (v := nI 8) (q := 6) (gDec iX11_account_ok 4 rfl) (by decide) rfl ?_
      refine go_callS (n2 := 0) (q := 9) kX11_57 ctX11_in (gDec iX11_account_ok 5 rfl) rfl rfl (Nat.le_of_ble_eq_true rfl) rfl (gFit_rm (by decide) (by decide)) rfl ?_
      refine go_top (v' := 1) (gWi_t (by (try rw [i2l_toInt]); exact h1)) ?_
      refine go_if_eq (t := 16) (q := 12) (gDec iX11_account_ok 6 rfl) (by decide) rfl (fun c9 => False.elim (absurd c9 (by decide))) (fun c9 => ?_)
      refine go_iconst (v := nI 0) (q := 13) (gDec iX11_account_ok 7 rfl) (by decide) rfl ?_
      refine go_goto (t := 17) (gDec iX11_account_ok 8 rfl) (by decide) ?_
      refine go_puti (q := 20) fX11_54 gft11 (gDec iX11_account_ok 10 rfl) rfl (by decide) rfl rfl rfl rfl ?_
      refine go_aload_n (q := 21) (gDec iX11_account_ok 11 rfl) rfl rfl rfl ?_
      refine go_geti (q := 24) fX11_54 (gDec iX11_account_ok 12 rfl) rfl (by decide) rfl ?_
      refine go_top (v' := nI 0) rfl ?_
      refine go_if_le (t := 29) (q := 27) (gDec iX11_account_ok 13 rfl) (by decide) rfl (fun c24 => ?_) (fun c24 => False.elim (c24 (by decide)))
      refine go_iload_n (q := 30) (gDec iX11_account_ok 16 rfl) rfl rfl rfl ?_
      refine go_tableIn (off := 79) (t := 109) (gDec iX11_account_ok 17 rfl) (by decide) (by decide) rfl (by decide) ?_
      refine go_aload_n (q := 110) (gDec iX11_account_ok 37 rfl) rfl rfl rfl ?_
      refine go_iload_n (q := 111) (gDec iX11_account_ok 38 rfl) rfl rfl rfl ?_
      refine go_callV (n2 := 0) (q := 114) kX11_241 (ctX11_sumOf7 (τ := τ) hC (gMRt hM)) (gDec iX11_account_ok 39 rfl) rfl rfl (by decide) rfl rfl rfl (Nat.le_of_ble_eq_true rfl) rfl (gFit_rm (by decide) (by decide)) rfl ?_
      exact go_ireturn (gDec iX11_account_ok 40 rfl) rfl rfl (by rw [show gLoop (fun g a => a + gSuS τ 7 g) 0 (gNg τ) 0 = gLoop (fun g a => a + τ.1 31 g) 0 24 0 from (gStm_eq hC).symm]; rfl) rfl (by decide)
    · skip
      refine go_aload_n (q := 1) (gDec iX11_account_ok 0 rfl) rfl rfl rfl ?_
      refine go_iload_n (q := 2) (gDec iX11_account_ok 1 rfl) rfl rfl rfl ?_
      refine go_i2l (q := 3) (gDec iX11_account_ok 2 rfl) rfl ?_
      refine go_iconst (v := nI 0) (q := 4) (gDec iX11_account_ok 3 rfl) (by decide) rfl ?_
      refine go_bipush (v := nI 8) (q := 6) (gDec iX11_account_ok 4 rfl) (by decide) rfl ?_
      refine go_callS (n2 := 0) (q := 9) kX11_57 ctX11_in (gDec iX11_account_ok 5 rfl) rfl rfl (Nat.le_of_ble_eq_true rfl) rfl (gFit_rm (by decide) (by decide)) rfl ?_
      refine go_top (v' := 1) (gWi_t (by (try rw [i2l_toInt]); exact h1)) ?_
      refine go_if_eq (t := 16) (q := 12) (gDec iX11_account_ok 6 rfl) (by decide) rfl (fun c9 => False.elim (absurd c9 (by decide))) (fun c9 => ?_)
      refine go_iconst (v := nI 0) (q := 13) (gDec iX11_account_ok 7 rfl) (by decide) rfl ?_
      refine go_goto (t := 17) (gDec iX11_account_ok 8 rfl) (by decide) ?_
      refine go_puti (q := 20) fX11_54 gft11 (gDec iX11_account_ok 10 rfl) rfl (by decide) rfl rfl rfl rfl ?_
      refine go_aload_n (q := 21) (gDec iX11_account_ok 11 rfl) rfl rfl rfl ?_
      refine go_geti (q := 24) fX11_54 (gDec iX11_account_ok 12 rfl) rfl (by decide) rfl ?_
      refine go_top (v' := nI 0) rfl ?_
      refine go_if_le (t := 29) (q := 27) (gDec iX11_account_ok 13 rfl) (by decide) rfl (fun c24 => ?_) (fun c24 => False.elim (c24 (by decide)))
      refine go_iload_n (q := 30) (gDec iX11_account_ok 16 rfl) rfl rfl rfl ?_
      refine go_tableIn (off := 74) (t := 104) (gDec iX11_account_ok 17 rfl) (by decide) (by decide) rfl (by decide) ?_
      refine go_aload_n (q := 105) (gDec iX11_account_ok 34 rfl) rfl rfl rfl ?_
      refine go_callV (n2 := 0) (q := 108) kX11_235 (ctX11_advances (τ := τ) hC (gMRt hM)) (gDec iX11_account_ok 35 rfl) rfl rfl (by decide) rfl rfl rfl (Nat.le_of_ble_eq_true rfl) rfl (gFit_rm (by decide) (by decide)) rfl ?_
      exact go_ireturn (gDec iX11_account_ok 36 rfl) rfl rfl rfl rfl (by decide)
  · rw [show fAccount τ w = _ from if_neg h1]
    refine go_aload_n (q := 1) (gDec iX11_account_ok 0 rfl) rfl rfl rfl ?_
    refine go_iload_n (q := 2) (gDec iX11_account_ok 1 rfl) rfl rfl rfl ?_
    refine go_i2l (q := 3) (gDec iX11_account_ok 2 rfl) rfl ?_
    refine go_iconst (v := nI 0) (q := 4) (gDec iX11_account_ok 3 rfl) (by decide) rfl ?_
    refine go_bipush (v := nI 8) (q := 6) (gDec iX11_account_ok 4 rfl) (by decide) rfl ?_
    refine go_callS (n2 := 0) (q := 9) kX11_57 ctX11_in (gDec iX11_account_ok 5 rfl) rfl rfl (Nat.le_of_ble_eq_true rfl) rfl (gFit_rm (by decide) (by decide)) rfl ?_
    refine go_top (v' := 0) (gWi_f (by (try rw [i2l_toInt]); exact h1)) ?_
    refine go_if_eq (t := 16) (q := 12) (gDec iX11_account_ok 6 rfl) (by decide) rfl (fun c9 => ?_) (fun c9 => False.elim (c9 rfl))
    refine go_iconst (v := nI 1) (q := 17) (gDec iX11_account_ok 9 rfl) (by decide) rfl ?_
    refine go_puti (q := 20) fX11_54 gft11 (gDec iX11_account_ok 10 rfl) rfl (by decide) rfl rfl rfl rfl ?_
    refine go_aload_n (q := 21) (gDec iX11_account_ok 11 rfl) rfl rfl rfl ?_
    refine go_geti (q := 24) fX11_54 (gDec iX11_account_ok 12 rfl) rfl (by decide) rfl ?_
    refine go_top (v' := nI 1) rfl ?_
    refine go_if_le (t := 29) (q := 27) (gDec iX11_account_ok 13 rfl) (by decide) rfl (fun c24 => False.elim (absurd c24 (by decide))) (fun c24 => ?_)
    refine go_iconst (v := nI 0) (q := 28) (gDec iX11_account_ok 14 rfl) (by decide) rfl ?_
    exact go_ireturn (gDec iX11_account_ok 15 rfl) rfl rfl rfl (congrArg (gPut σ 376 5) xc_A_A) (by decide)
