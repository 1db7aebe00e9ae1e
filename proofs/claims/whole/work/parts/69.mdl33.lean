set_option maxHeartbeats 4000000 in
set_option maxRecDepth 100000 in
theorem ctX11_more {κ : gK} {σ : gST} {τ : gST} {w : Nat} (hM : gMR τ (σ.1 377)) (hw : w < 60) (h84 : σ.1 384 w = pWd τ w) : gCt κ mX11_more 0 [.ref (κ.2.1 + 376), .int (nI w)] σ (.inl (some (.int (mMo τ w)))) σ 0 := by
  refine ct_of (by decide +kernel) rfl (Nat.le_of_ble_eq_true rfl) rfl ?_
  refine go_aload_n (q := 1) (gDec iX11_more_ok 0 rfl) rfl rfl rfl ?_
  refine go_getr (r' := 377) (q := 4) fX11_9 (gDec iX11_more_ok 1 rfl) rfl (by decide) rfl ?_
  refine go_iconst (v := nI 2) (q := 5) (gDec iX11_more_ok 2 rfl) (by decide) rfl ?_
  refine go_ialdN (q := 6) (gDec iX11_more_ok 3 rfl) rfl (by decide) (by omega) (by decide) rfl ?_
  refine go_top (v' := τ.1 1 5) (hM.1.2.2.1) ?_
  refine go_iconst (v := 2) (q := 7) (gDec iX11_more_ok 4 rfl) (by decide) rfl ?_
  refine go_aload_n (q := 8) (gDec iX11_more_ok 5 rfl) rfl rfl rfl ?_
  refine go_getr (r' := 377) (q := 11) fX11_9 (gDec iX11_more_ok 6 rfl) rfl (by decide) rfl ?_
  refine go_iconst (v := nI 1) (q := 12) (gDec iX11_more_ok 7 rfl) (by decide) rfl ?_
  refine go_ialdN (q := 13) (gDec iX11_more_ok 8 rfl) rfl (by decide) (by omega) (by decide) rfl ?_
  refine go_top (v' := τ.1 1 4) (hM.1.2.1) ?_
  refine go_imul (q := 14) (gDec iX11_more_ok 9 rfl) rfl ?_
  refine go_iadd (q := 15) (gDec iX11_more_ok 10 rfl) rfl ?_
  refine go_aload_n (q := 16) (gDec iX11_more_ok 11 rfl) rfl rfl rfl ?_
  refine go_getr (r' := 384) (q := 19) fX11_32 (gDec iX11_more_ok 12 rfl) rfl (by decide) rfl ?_
  refine go_iload_n (q := 20) (gDec iX11_more_ok 13 rfl) rfl rfl rfl ?_
  refine go_ialdN (q := 21) (gDec iX11_more_ok 14 rfl) rfl (by decide) (by omega) (by decide) rfl ?_
  refine go_top (v' := pWd τ w) (h84) ?_
  refine go_iadd (q := 22) (gDec iX11_more_ok 15 rfl) rfl ?_
  exact go_ireturn (gDec iX11_more_ok 16 rfl) rfl rfl rfl rfl (by decide)

set_option maxHeartbeats 4000000 in
set_option maxRecDepth 100000 in
theorem lpX11_break {κ : gK} {Z : gZ} {τ b : gST} {me : Int32} {N : Nat} (hM : gMR τ (b.1 377)) (h13 : b.1 376 13 = nI N) (h60 : N ≤ 60) (h84 : ∀ w, w < N → b.1 384 w = pWd τ w) : ∀ (m i : Nat) (s : gST), i + m = N → mBI b i s → Go κ mX11_breakLines (gRm 1 0) Z 132 [(0, .ref (κ.2.1 + 376)), (1, .int me), (2, .int (nI N))] [] (gLoop (mBS τ me) i m s) 0 → Go κ mX11_breakLines (gRm 1 0) Z 7 [(0, .ref (κ.2.1 + 376)), (1, .int me), (2, .int (nI i))] [] s 0 := by
  intro m
  induction m with
  | zero =>
    intro i s hi hI h
    have hiN : N = i := by omega
    subst hiN
    refine go_iload_n (q := 8) (gDec iX11_breakLines_ok 5 rfl) rfl rfl rfl ?_
    refine go_aload_n (q := 9) (gDec iX11_breakLines_ok 6 rfl) rfl rfl rfl ?_
    refine go_geti (q := 12) fX11_212 (gDec iX11_breakLines_ok 7 rfl) rfl (by decide) rfl ?_
    refine go_top (v' := nI N) ((hI.2.1 13 (by decide)).trans h13) ?_
    refine go_icmp_ge (t := 132) (q := 15) (gDec iX11_breakLines_ok 8 rfl) (by decide) rfl (fun c12 => ?_) (fun c12 => False.elim (c12 (Int32.le_refl _)))
    exact h
  | succ m ih =>
    intro i s hi hI h
    have ih2 := ih (i + 1) (mBS τ me i s) (by omega) (mBI_s (by omega) hI) h
    clear ih h
    obtain ⟨n, hn1, hn2, hn⟩ := hI.2.2.2
    cases i with
    | zero =>
      have hn0 : n = 0 := by omega
      subst hn0
      rw [mBS_n (by omega) hn (fun h9 => absurd h9.1 (by omega))] at ih2
      refine go_iload_n (q := 8) (gDec iX11_breakLines_ok 5 rfl) rfl rfl rfl ?_
      refine go_aload_n (q := 9) (gDec iX11_breakLines_ok 6 rfl) rfl rfl rfl ?_
      refine go_geti (q := 12) fX11_212 (gDec iX11_breakLines_ok 7 rfl) rfl (by decide) rfl ?_
      refine go_top (v' := nI N) ((hI.2.1 13 (by decide)).trans h13) ?_
      refine go_icmp_ge (t := 132) (q := 15) (gDec iX11_breakLines_ok 8 rfl) (by decide) rfl (fun c12 => False.elim (nI_ge (a := 0) (b := N) (by omega) (by omega) c12)) (fun c12 => ?_)
      refine go_aload_n (q := 16) (gDec iX11_breakLines_ok 9 rfl) rfl rfl rfl ?_
      refine go_geti (q := 19) fX11_215 (gDec iX11_breakLines_ok 10 rfl) rfl (by decide) rfl ?_
      refine go_top (v' := nI 0) (hn) ?_
      refine go_iconst (v := nI 1) (q := 20) (gDec iX11_breakLines_ok 11 rfl) (by decide) rfl ?_
      refine go_isub (q := 21) (gDec iX11_breakLines_ok 12 rfl) rfl ?_
      refine go_istore_n (q := 22) (gDec iX11_breakLines_ok 13 rfl) rfl (by decide) rfl ?_
      refine go_iload_n (q := 23) (gDec iX11_breakLines_ok 14 rfl) rfl rfl rfl ?_
      refine go_if_le (t := 46) (q := 26) (gDec iX11_breakLines_ok 15 rfl) (by decide) rfl (fun c23 => ?_) (fun c23 => False.elim (c23 (by decide)))
      refine go_iconst (v := nI 0) (q := 47) (gDec iX11_breakLines_ok 28 rfl) (by decide) rfl ?_
      refine go_istore (q := 49) (gDec iX11_breakLines_ok 29 rfl) (by decide) rfl ?_
      refine go_iload (q := 51) (gDec iX11_breakLines_ok 30 rfl) rfl rfl ?_
      refine go_if_eq (t := 81) (q := 54) (gDec iX11_breakLines_ok 31 rfl) (by decide) rfl (fun c51 => ?_) (fun c51 => False.elim (c51 (by decide)))
      refine go_aload_n (q := 82) (gDec iX11_breakLines_ok 51 rfl) rfl rfl rfl ?_
      refine go_getr (r' := 385) (q := 85) fX11_35 (gDec iX11_breakLines_ok 52 rfl) rfl (by decide) rfl ?_
      refine go_aload_n (q := 86) (gDec iX11_breakLines_ok 53 rfl) rfl rfl rfl ?_
      refine go_geti (q := 89) fX11_215 (gDec iX11_breakLines_ok 54 rfl) rfl (by decide) rfl ?_
      refine go_top (v' := nI (0)) (hn) ?_
      refine go_iload_n (q := 90) (gDec iX11_breakLines_ok 55 rfl) rfl rfl rfl ?_
      refine go_iastN (q := 91) (gDec iX11_breakLines_ok 56 rfl) rfl (by decide) (by omega) (by decide) rfl ?_
      refine go_aload_n (q := 92) (gDec iX11_breakLines_ok 57 rfl) rfl rfl rfl ?_
      refine go_getr (r' := 386) (q := 95) fX11_38 (gDec iX11_breakLines_ok 58 rfl) rfl (by decide) rfl ?_
      refine go_aload_n (q := 96) (gDec iX11_breakLines_ok 59 rfl) rfl rfl rfl ?_
      refine go_geti (q := 99) fX11_215 (gDec iX11_breakLines_ok 60 rfl) rfl (by decide) rfl ?_
      refine go_top (v' := nI (0)) (hn) ?_
      refine go_iconst (v := 1) (q := 100) (gDec iX11_breakLines_ok 61 rfl) (by decide) rfl ?_
      refine go_iastN (q := 101) (gDec iX11_breakLines_ok 62 rfl) rfl (by decide) (by omega) (by decide) rfl ?_
      refine go_aload_n (q := 102) (gDec iX11_breakLines_ok 63 rfl) rfl rfl rfl ?_
      refine go_getr (r' := 387) (q := 105) fX11_41 (gDec iX11_breakLines_ok 64 rfl) rfl (by decide) rfl ?_
      refine go_aload_n (q := 106) (gDec iX11_breakLines_ok 65 rfl) rfl rfl rfl ?_
      refine go_geti (q := 109) fX11_215 (gDec iX11_breakLines_ok 66 rfl) rfl (by decide) rfl ?_
      refine go_top (v' := nI (0)) (hn) ?_
      refine go_aload_n (q := 110) (gDec iX11_breakLines_ok 67 rfl) rfl rfl rfl ?_
      refine go_getr (r' := 384) (q := 113) fX11_32 (gDec iX11_breakLines_ok 68 rfl) rfl (by decide) rfl ?_
      refine go_iload_n (q := 114) (gDec iX11_breakLines_ok 69 rfl) rfl rfl rfl ?_
      refine go_ialdN (q := 115) (gDec iX11_breakLines_ok 70 rfl) rfl (by decide) (by omega) (by decide) rfl ?_
      refine go_top (v' := pWd τ 0) (((congrFun (hI.1 384 (by decide) (by decide) (by decide) (by decide)) _).trans (h84 _ (by omega)))) ?_
      refine go_iastN (q := 116) (gDec iX11_breakLines_ok 71 rfl) rfl (by decide) (by omega) (by decide) rfl ?_
      refine go_aload_n (q := 117) (gDec iX11_breakLines_ok 72 rfl) rfl rfl rfl ?_
      refine go_dup (q := 118) (gDec iX11_breakLines_ok 73 rfl) rfl rfl ?_
      refine go_geti (q := 121) fX11_215 (gDec iX11_breakLines_ok 74 rfl) rfl (by decide) rfl ?_
      refine go_top (v' := nI (0)) (hn) ?_
      refine go_iconst (v := nI 1) (q := 122) (gDec iX11_breakLines_ok 75 rfl) (by decide) rfl ?_
      refine go_iaddN (c := 0 + 1) (q := 123) (gDec iX11_breakLines_ok 76 rfl) rfl rfl ?_
      refine go_puti (q := 126) fX11_215 gft11 (gDec iX11_breakLines_ok 77 rfl) rfl (by decide) rfl rfl rfl rfl ?_
      refine go_iinc (v := nI (0 + 1)) (q := 129) (gDec iX11_breakLines_ok 78 rfl) rfl (nI_1 _) (by decide) rfl ?_
      refine go_goto (t := 7) (gDec iX11_breakLines_ok 79 rfl) (by decide) ?_
      refine go_sub (L' := [(0, .ref (κ.2.1 + 376)), (1, .int me), (2, .int (nI (0 + 1)))]) ⟨rfl, rfl, rfl, trivial⟩ ?_
      exact ih2
    | succ v =>
      obtain ⟨k, hk⟩ : ∃ k, n = k + 1 := ⟨n - 1, by have := hn2 (by omega); omega⟩
      subst hk
      by_cases hc : s.1 387 k + mMo τ (v + 1) ≤ me
      · rw [mBS_y (by omega) hn (by omega) hc] at ih2
        refine go_iload_n (q := 8) (gDec iX11_breakLines_ok 5 rfl) rfl rfl rfl ?_
        refine go_aload_n (q := 9) (gDec iX11_breakLines_ok 6 rfl) rfl rfl rfl ?_
        refine go_geti (q := 12) fX11_212 (gDec iX11_breakLines_ok 7 rfl) rfl (by decide) rfl ?_
        refine go_top (v' := nI N) ((hI.2.1 13 (by decide)).trans h13) ?_
        refine go_icmp_ge (t := 132) (q := 15) (gDec iX11_breakLines_ok 8 rfl) (by decide) rfl (fun c12 => False.elim (nI_ge (a := (v + 1)) (b := N) (by omega) (by omega) c12)) (fun c12 => ?_)
        refine go_aload_n (q := 16) (gDec iX11_breakLines_ok 9 rfl) rfl rfl rfl ?_
        refine go_geti (q := 19) fX11_215 (gDec iX11_breakLines_ok 10 rfl) rfl (by decide) rfl ?_
        refine go_top (v' := nI (k + 1)) (hn) ?_
        refine go_iconst (v := nI 1) (q := 20) (gDec iX11_breakLines_ok 11 rfl) (by decide) rfl ?_
        refine go_isub (q := 21) (gDec iX11_breakLines_ok 12 rfl) rfl ?_
        refine go_top (v' := nI k) (nI_pred k) ?_
        refine go_istore_n (q := 22) (gDec iX11_breakLines_ok 13 rfl) rfl (by decide) rfl ?_
        refine go_iload_n (q := 23) (gDec iX11_breakLines_ok 14 rfl) rfl rfl rfl ?_
        refine go_if_le (t := 46) (q := 26) (gDec iX11_breakLines_ok 15 rfl) (by decide) rfl (fun c23 => False.elim (nI_nle (n := v + 1) (by omega) (by omega) c23)) (fun c23 => ?_)
        refine go_aload_n (q := 27) (gDec iX11_breakLines_ok 16 rfl) rfl rfl rfl ?_
        refine go_getr (r' := 387) (q := 30) fX11_41 (gDec iX11_breakLines_ok 17 rfl) rfl (by decide) rfl ?_
        refine go_iload_n (q := 31) (gDec iX11_breakLines_ok 18 rfl) rfl rfl rfl ?_
        refine go_ialdN (q := 32) (gDec iX11_breakLines_ok 19 rfl) rfl (by decide) (by omega) (by decide) rfl ?_
        refine go_aload_n (q := 33) (gDec iX11_breakLines_ok 20 rfl) rfl rfl rfl ?_
        refine go_iload_n (q := 34) (gDec iX11_breakLines_ok 21 rfl) rfl rfl rfl ?_
        refine go_callV (n2 := 0) (q := 37) kX11_218 (ctX11_more (τ := τ) (w := v + 1) (by rw [hI.1 377 (by decide) (by decide) (by decide) (by decide)]; exact hM) (by omega) ((congrFun (hI.1 384 (by decide) (by decide) (by decide) (by decide)) _).trans (h84 _ (by omega)))) (gDec iX11_breakLines_ok 22 rfl) rfl rfl (by decide) rfl rfl rfl (Nat.le_of_ble_eq_true rfl) rfl (gFit_rm (by decide) (by decide)) rfl ?_
        refine go_iadd (q := 38) (gDec iX11_breakLines_ok 23 rfl) rfl ?_
        refine go_iload_n (q := 39) (gDec iX11_breakLines_ok 24 rfl) rfl rfl rfl ?_
        refine go_icmp_gt (t := 46) (q := 42) (gDec iX11_breakLines_ok 25 rfl) (by decide) rfl (fun c39 => False.elim (absurd hc (Int32.not_le.mpr c39))) (fun c39 => ?_)
        refine go_iconst (v := nI 1) (q := 43) (gDec iX11_breakLines_ok 26 rfl) (by decide) rfl ?_
        refine go_goto (t := 47) (gDec iX11_breakLines_ok 27 rfl) (by decide) ?_
        refine go_istore (q := 49) (gDec iX11_breakLines_ok 29 rfl) (by decide) rfl ?_
        refine go_iload (q := 51) (gDec iX11_breakLines_ok 30 rfl) rfl rfl ?_
        refine go_if_eq (t := 81) (q := 54) (gDec iX11_breakLines_ok 31 rfl) (by decide) rfl (fun c51 => False.elim (absurd c51 (by decide))) (fun c51 => ?_)
        refine go_aload_n (q := 55) (gDec iX11_breakLines_ok 32 rfl) rfl rfl rfl ?_
        refine go_getr (r' := 386) (q := 58) fX11_38 (gDec iX11_breakLines_ok 33 rfl) rfl (by decide) rfl ?_
        refine go_iload_n (q := 59) (gDec iX11_breakLines_ok 34 rfl) rfl rfl rfl ?_
        refine go_dup2 (q := 60) (gDec iX11_breakLines_ok 35 rfl) rfl rfl rfl ?_
        refine go_ialdN (q := 61) (gDec iX11_breakLines_ok 36 rfl) rfl (by decide) (by omega) (by decide) rfl ?_
        refine go_iconst (v := 1) (q := 62) (gDec iX11_breakLines_ok 37 rfl) (by decide) rfl ?_
        refine go_iadd (q := 63) (gDec iX11_breakLines_ok 38 rfl) rfl ?_
        refine go_iastN (q := 64) (gDec iX11_breakLines_ok 39 rfl) rfl (by decide) (by omega) (by decide) rfl ?_
        refine go_aload_n (q := 65) (gDec iX11_breakLines_ok 40 rfl) rfl rfl rfl ?_
        refine go_getr (r' := 387) (q := 68) fX11_41 (gDec iX11_breakLines_ok 41 rfl) rfl (by decide) rfl ?_
        refine go_iload_n (q := 69) (gDec iX11_breakLines_ok 42 rfl) rfl rfl rfl ?_
        refine go_dup2 (q := 70) (gDec iX11_breakLines_ok 43 rfl) rfl rfl rfl ?_
        refine go_ialdN (q := 71) (gDec iX11_breakLines_ok 44 rfl) rfl (by decide) (by omega) (by decide) rfl ?_
        refine go_top (v' := s.1 387 k) (congrFun (gPut_ne _ _ _ (by decide)) _) ?_
        refine go_aload_n (q := 72) (gDec iX11_breakLines_ok 45 rfl) rfl rfl rfl ?_
        refine go_iload_n (q := 73) (gDec iX11_breakLines_ok 46 rfl) rfl rfl rfl ?_
        refine go_callV (n2 := 0) (q := 76) kX11_218 (ctX11_more (τ := τ) (w := v + 1) (show gMR τ (s.1 377) from (by rw [hI.1 377 (by decide) (by decide) (by decide) (by decide)]; exact hM)) (by omega) (show s.1 384 (v + 1) = _ from ((congrFun (hI.1 384 (by decide) (by decide) (by decide) (by decide)) _).trans (h84 _ (by omega))))) (gDec iX11_breakLines_ok 47 rfl) rfl rfl (by decide) rfl rfl rfl (Nat.le_of_ble_eq_true rfl) rfl (gFit_rm (by decide) (by decide)) rfl ?_
        refine go_iadd (q := 77) (gDec iX11_breakLines_ok 48 rfl) rfl ?_
        refine go_iastN (q := 78) (gDec iX11_breakLines_ok 49 rfl) rfl (by decide) (by omega) (by decide) rfl ?_
        refine go_goto (t := 126) (gDec iX11_breakLines_ok 50 rfl) (by decide) ?_
        refine go_iinc (v := nI ((v + 1) + 1)) (q := 129) (gDec iX11_breakLines_ok 78 rfl) rfl (nI_1 _) (by decide) rfl ?_
        refine go_goto (t := 7) (gDec iX11_breakLines_ok 79 rfl) (by decide) ?_
        refine go_sub (L' := [(0, .ref (κ.2.1 + 376)), (1, .int me), (2, .int (nI ((v + 1) + 1)))]) ⟨rfl, rfl, rfl, trivial⟩ ?_
        exact ih2
      · rw [mBS_n (by omega) hn (fun h9 => hc h9.2)] at ih2
        refine go_iload_n (q := 8) (gDec iX11_breakLines_ok 5 rfl) rfl rfl rfl ?_
        refine go_aload_n (q := 9) (gDec iX11_breakLines_ok 6 rfl) rfl rfl rfl ?_
        refine go_geti (q := 12) fX11_212 (gDec iX11_breakLines_ok 7 rfl) rfl (by decide) rfl ?_
        refine go_top (v' := nI N) ((hI.2.1 13 (by decide)).trans h13) ?_
        refine go_icmp_ge (t := 132) (q := 15) (gDec iX11_breakLines_ok 8 rfl) (by decide) rfl (fun c12 => False.elim (nI_ge (a := (v + 1)) (b := N) (by omega) (by omega) c12)) (fun c12 => ?_)
        refine go_aload_n (q := 16) (gDec iX11_breakLines_ok 9 rfl) rfl rfl rfl ?_
        refine go_geti (q := 19) fX11_215 (gDec iX11_breakLines_ok 10 rfl) rfl (by decide) rfl ?_
        refine go_top (v' := nI (k + 1)) (hn) ?_
        refine go_iconst (v := nI 1) (q := 20) (gDec iX11_breakLines_ok 11 rfl) (by decide) rfl ?_
        refine go_isub (q := 21) (gDec iX11_breakLines_ok 12 rfl) rfl ?_
        refine go_top (v' := nI k) (nI_pred k) ?_
        refine go_istore_n (q := 22) (gDec iX11_breakLines_ok 13 rfl) rfl (by decide) rfl ?_
        refine go_iload_n (q := 23) (gDec iX11_breakLines_ok 14 rfl) rfl rfl rfl ?_
        refine go_if_le (t := 46) (q := 26) (gDec iX11_breakLines_ok 15 rfl) (by decide) rfl (fun c23 => False.elim (nI_nle (n := v + 1) (by omega) (by omega) c23)) (fun c23 => ?_)
        refine go_aload_n (q := 27) (gDec iX11_breakLines_ok 16 rfl) rfl rfl rfl ?_
        refine go_getr (r' := 387) (q := 30) fX11_41 (gDec iX11_breakLines_ok 17 rfl) rfl (by decide) rfl ?_
        refine go_iload_n (q := 31) (gDec iX11_breakLines_ok 18 rfl) rfl rfl rfl ?_
        refine go_ialdN (q := 32) (gDec iX11_breakLines_ok 19 rfl) rfl (by decide) (by omega) (by decide) rfl ?_
        refine go_aload_n (q := 33) (gDec iX11_breakLines_ok 20 rfl) rfl rfl rfl ?_
        refine go_iload_n (q := 34) (gDec iX11_breakLines_ok 21 rfl) rfl rfl rfl ?_
        refine go_callV (n2 := 0) (q := 37) kX11_218 (ctX11_more (τ := τ) (w := v + 1) (by rw [hI.1 377 (by decide) (by decide) (by decide) (by decide)]; exact hM) (by omega) ((congrFun (hI.1 384 (by decide) (by decide) (by decide) (by decide)) _).trans (h84 _ (by omega)))) (gDec iX11_breakLines_ok 22 rfl) rfl rfl (by decide) rfl rfl rfl (Nat.le_of_ble_eq_true rfl) rfl (gFit_rm (by decide) (by decide)) rfl ?_
        refine go_iadd (q := 38) (gDec iX11_breakLines_ok 23 rfl) rfl ?_
        refine go_iload_n (q := 39) (gDec iX11_breakLines_ok 24 rfl) rfl rfl rfl ?_
        refine go_icmp_gt (t := 46) (q := 42) (gDec iX11_breakLines_ok 25 rfl) (by decide) rfl (fun c39 => ?_) (fun c39 => False.elim (hc (Int32.not_lt.mp c39)))
        refine go_iconst (v := nI 0) (q := 47) (gDec iX11_breakLines_ok 28 rfl) (by decide) rfl ?_
        refine go_istore (q := 49) (gDec iX11_breakLines_ok 29 rfl) (by decide) rfl ?_
        refine go_iload (q := 51) (gDec iX11_breakLines_ok 30 rfl) rfl rfl ?_
        refine go_if_eq (t := 81) (q := 54) (gDec iX11_breakLines_ok 31 rfl) (by decide) rfl (fun c51 => ?_) (fun c51 => False.elim (c51 (by decide)))
        refine go_aload_n (q := 82) (gDec iX11_breakLines_ok 51 rfl) rfl rfl rfl ?_
        refine go_getr (r' := 385) (q := 85) fX11_35 (gDec iX11_breakLines_ok 52 rfl) rfl (by decide) rfl ?_
        refine go_aload_n (q := 86) (gDec iX11_breakLines_ok 53 rfl) rfl rfl rfl ?_
        refine go_geti (q := 89) fX11_215 (gDec iX11_breakLines_ok 54 rfl) rfl (by decide) rfl ?_
        refine go_top (v' := nI (k + 1)) (hn) ?_
        refine go_iload_n (q := 90) (gDec iX11_breakLines_ok 55 rfl) rfl rfl rfl ?_
        refine go_iastN (q := 91) (gDec iX11_breakLines_ok 56 rfl) rfl (by decide) (by omega) (by decide) rfl ?_
        refine go_aload_n (q := 92) (gDec iX11_breakLines_ok 57 rfl) rfl rfl rfl ?_
        refine go_getr (r' := 386) (q := 95) fX11_38 (gDec iX11_breakLines_ok 58 rfl) rfl (by decide) rfl ?_
        refine go_aload_n (q := 96) (gDec iX11_breakLines_ok 59 rfl) rfl rfl rfl ?_
        refine go_geti (q := 99) fX11_215 (gDec iX11_breakLines_ok 60 rfl) rfl (by decide) rfl ?_
        refine go_top (v' := nI (k + 1)) (hn) ?_
        refine go_iconst (v := 1) (q := 100) (gDec iX11_breakLines_ok 61 rfl) (by decide) rfl ?_
        refine go_iastN (q := 101) (gDec iX11_breakLines_ok 62 rfl) rfl (by decide) (by omega) (by decide) rfl ?_
        refine go_aload_n (q := 102) (gDec iX11_breakLines_ok 63 rfl) rfl rfl rfl ?_
        refine go_getr (r' := 387) (q := 105) fX11_41 (gDec iX11_breakLines_ok 64 rfl) rfl (by decide) rfl ?_
        refine go_aload_n (q := 106) (gDec iX11_breakLines_ok 65 rfl) rfl rfl rfl ?_
        refine go_geti (q := 109) fX11_215 (gDec iX11_breakLines_ok 66 rfl) rfl (by decide) rfl ?_
        refine go_top (v' := nI (k + 1)) (hn) ?_
        refine go_aload_n (q := 110) (gDec iX11_breakLines_ok 67 rfl) rfl rfl rfl ?_
        refine go_getr (r' := 384) (q := 113) fX11_32 (gDec iX11_breakLines_ok 68 rfl) rfl (by decide) rfl ?_
        refine go_iload_n (q := 114) (gDec iX11_breakLines_ok 69 rfl) rfl rfl rfl ?_
        refine go_ialdN (q := 115) (gDec iX11_breakLines_ok 70 rfl) rfl (by decide) (by omega) (by decide) rfl ?_
        refine go_top (v' := pWd τ (v + 1)) (((congrFun (hI.1 384 (by decide) (by decide) (by decide) (by decide)) _).trans (h84 _ (by omega)))) ?_
        refine go_iastN (q := 116) (gDec iX11_breakLines_ok 71 rfl) rfl (by decide) (by omega) (by decide) rfl ?_
        refine go_aload_n (q := 117) (gDec iX11_breakLines_ok 72 rfl) rfl rfl rfl ?_
        refine go_dup (q := 118) (gDec iX11_breakLines_ok 73 rfl) rfl rfl ?_
        refine go_geti (q := 121) fX11_215 (gDec iX11_breakLines_ok 74 rfl) rfl (by decide) rfl ?_
        refine go_top (v' := nI (k + 1)) (hn) ?_
        refine go_iconst (v := nI 1) (q := 122) (gDec iX11_breakLines_ok 75 rfl) (by decide) rfl ?_
        refine go_iaddN (c := k + 1 + 1) (q := 123) (gDec iX11_breakLines_ok 76 rfl) rfl rfl ?_
        refine go_puti (q := 126) fX11_215 gft11 (gDec iX11_breakLines_ok 77 rfl) rfl (by decide) rfl rfl rfl rfl ?_
        refine go_iinc (v := nI ((v + 1) + 1)) (q := 129) (gDec iX11_breakLines_ok 78 rfl) rfl (nI_1 _) (by decide) rfl ?_
        refine go_goto (t := 7) (gDec iX11_breakLines_ok 79 rfl) (by decide) ?_
        refine go_sub (L' := [(0, .ref (κ.2.1 + 376)), (1, .int me), (2, .int (nI ((v + 1) + 1)))]) ⟨rfl, rfl, rfl, trivial⟩ ?_
        exact ih2

set_option maxHeartbeats 4000000 in
set_option maxRecDepth 100000 in
theorem ctX11_breakLines {κ : gK} {σ τ : gST} {me : Int32} (hM : gMR τ (σ.1 377)) (h13 : σ.1 376 13 = nI (pW τ (gPl_ τ)).1) (h60 : gPl_ τ ≤ 60) (h84 : ∀ w, w < (pW τ (gPl_ τ)).1 → σ.1 384 w = pWd τ w) : gCt κ mX11_breakLines 1 [.ref (κ.2.1 + 376), .int me] σ (.inl none) (mBr τ me σ) 0 := by
  have hk := (pW_I τ (gPl_ τ)).1
  refine ct_of (by decide +kernel) rfl (Nat.le_of_ble_eq_true rfl) rfl ?_
  refine go_aload_n (q := 1) (gDec iX11_breakLines_ok 0 rfl) rfl rfl rfl ?_
  refine go_iconst (v := 0) (q := 2) (gDec iX11_breakLines_ok 1 rfl) (by decide) rfl ?_
  refine go_puti (q := 5) fX11_215 gft11 (gDec iX11_breakLines_ok 2 rfl) rfl (by decide) rfl rfl rfl rfl ?_
  refine go_iconst (v := nI 0) (q := 6) (gDec iX11_breakLines_ok 3 rfl) (by decide) rfl ?_
  refine go_istore_n (q := 7) (gDec iX11_breakLines_ok 4 rfl) rfl (by decide) rfl ?_
  refine go_sub (L' := [(0, .ref (κ.2.1 + 376)), (1, .int me), (2, .int (nI 0))]) ⟨rfl, rfl, rfl, trivial⟩ ?_
  refine lpX11_break (τ := τ) (b := σ) (N := (pW τ (gPl_ τ)).1) hM h13 (by omega) h84 (pW τ (gPl_ τ)).1 0 (gPut σ 376 17 0) (by omega) (mBI_0 σ) ?_
  exact go_return (gDec iX11_breakLines_ok 80 rfl) rfl rfl rfl (by decide)
