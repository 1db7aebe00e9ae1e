theorem gBlL_I {σ : gST} {me : Int32} : ∀ (m i : Nat) (a : Nat × gST), i + m ≤ 60 → gBlI σ i a → gBlI σ (i + m) (gLoop (gBlS σ me) i m a)
  | 0, _, _, _, h => h
  | m + 1, i, a, hm, h => by
    have h2 := gBlL_I (me := me) m (i + 1) _ (by omega) (gBlS_I (me := me) (by omega) h)
    rw [show i + 1 + m = i + (m + 1) by omega] at h2
    exact h2
theorem gBr_n {σ : gST} (hP : gPW σ) (me : Int32) : ∃ n, n ≤ 60 ∧ (gBr σ me).1 363 8 = nI n := by
  have h60 := hP.pl60
  have h := gBlL_I (σ := gBr0 σ) (me := me) (gPl_ σ) 0 ((0 : Nat), gBr0 σ) (by omega) ⟨Nat.le_refl 0, gLA.rf _, 0, Nat.le_refl 0, (by show (gPut (gPut σ 363 8 0) 363 9 100001).1 363 8 = _; rw [gPut_at, if_neg (by decide), gPut_at, if_pos ⟨rfl, rfl⟩]; rfl)⟩
  obtain ⟨-, -, n, hn, he⟩ := h
  exact ⟨n, by omega, he⟩
def gLn (σ : gST) (m : Int32) : gST := gBr (gSet σ) m
def fLine (σ : gST) (m i w : Int32) : gO × gST := if (1 ≤ m.toInt ∧ m.toInt ≤ 100000) ∧ (0 ≤ w.toInt ∧ w.toInt ≤ 2) then
    if 0 ≤ i.toInt ∧ i.toInt ≤ (nA ((gLn σ m).1 363 8) : Int) - 1 then
      (rI (if w = 0 then (gLn σ m).1 371 (nA i) else if w = 1 then (gLn σ m).1 373 (nA i) else (gLn σ m).1 375 (nA i)), gLn σ m)
    else (xNSE, gLn σ m)
  else (xIAE, σ)

set_option maxHeartbeats 4000000 in
set_option maxRecDepth 100000 in
theorem ctX10_line {κ : gK} {σ : gST} {m i w : Int32} (hW : gDW σ) (hP : gPW σ) : gCt κ mX10_line 9 [.ref (κ.2.1 + 0), .int m, .int i, .int w] σ (fLine σ m i w).1 (fLine σ m i w).2 1 := by
  refine ct_of (by decide +kernel) rfl (Nat.le_of_ble_eq_true rfl) rfl ?_
  obtain ⟨n, hn, hne⟩ : ∃ n, n ≤ 60 ∧ (gLn σ m).1 363 8 = nI n := gBr_n (gSet_pw hP).1 m
  by_cases h1 : (1 ≤ m.toInt ∧ m.toInt ≤ 100000) ∧ (0 ≤ w.toInt ∧ w.toInt ≤ 2)
  · have hs : fLine σ m i w = _ := if_pos h1
    rw [hs, hne, nA_nI (n := n) (by omega)]
    by_cases h2 : 0 ≤ i.toInt ∧ i.toInt ≤ (n : Int) - 1
    · rw [if_pos h2]
      obtain ⟨j, hj, rfl⟩ := gIn_ex h2
      obtain ⟨k, hk, rfl⟩ := gIn_ex (n := 3) (show 0 ≤ w.toInt ∧ w.toInt ≤ ((3 : Nat) : Int) - 1 from h1.2)
      rw [nA_nI (n := j) (by omega)]
      rcases (by omega : k = 0 ∨ k = 1 ∨ k = 2) with h9 | h9 | h9 <;> subst h9
      · rw [if_pos (show nI 0 = 0 from rfl)]
        refine go_iload_n (q := 1) (gDec iX10_line_ok 0 rfl) rfl rfl rfl ?_
        refine go_callS (n2 := 0) (q := 4) kX10_399 (ctX10_requireMeasure h1.1) (gDec iX10_line_ok 1 rfl) rfl rfl (Nat.le_of_ble_eq_true rfl) rfl (gFit_rm (by decide) (by decide)) rfl ?_
        refine go_iload_n (q := 5) (gDec iX10_line_ok 2 rfl) rfl rfl rfl ?_
        refine go_i2l (q := 6) (gDec iX10_line_ok 3 rfl) rfl ?_
        refine go_lconst (v := 0) (q := 7) (gDec iX10_line_ok 4 rfl) (by decide) rfl ?_
        refine go_ldc2 (q := 10) wX10_408 (gDec iX10_line_ok 5 rfl) rfl ?_
        refine go_callS (n2 := 0) (q := 13) kX10_59 ctX10_isWithin (gDec iX10_line_ok 6 rfl) rfl rfl (Nat.le_of_ble_eq_true rfl) rfl (gFit_rm (by decide) (by decide)) rfl ?_
        refine go_top (v' := 1) (gWi_t (by rw [i2l_toInt]; exact h1.2)) ?_
        refine go_if_ne (t := 27) (q := 16) (gDec iX10_line_ok 7 rfl) (by decide) rfl (fun c13 => ?_) (fun c13 => False.elim (absurd c13 (by decide)))
        refine go_aload_n (q := 28) (gDec iX10_line_ok 13 rfl) rfl rfl rfl ?_
        refine go_getr (r' := 363) (q := 31) fX10_43 (gDec iX10_line_ok 14 rfl) rfl (by decide) rfl ?_
        refine go_aload_n (q := 32) (gDec iX10_line_ok 15 rfl) rfl rfl rfl ?_
        refine go_getr (r' := 1) (q := 35) fX10_10 (gDec iX10_line_ok 16 rfl) rfl (by decide) rfl ?_
        refine go_callV (n2 := 0) (q := 38) kX10_388 (ctX6_set' hW hP) (gDec iX10_line_ok 17 rfl) rfl rfl (by decide) rfl rfl rfl (Nat.le_of_ble_eq_true rfl) rfl (gFit_rm (by decide) (by decide)) rfl ?_
        refine go_aload_n (q := 39) (gDec iX10_line_ok 18 rfl) rfl rfl rfl ?_
        refine go_getr (r' := 363) (q := 42) fX10_43 (gDec iX10_line_ok 19 rfl) rfl (by decide) rfl ?_
        refine go_iload_n (q := 43) (gDec iX10_line_ok 20 rfl) rfl rfl rfl ?_
        refine go_callV (n2 := 0) (q := 46) kX10_402 (ctX6_breakLines (gSet_pw hP).1) (gDec iX10_line_ok 21 rfl) rfl rfl (by decide) rfl rfl rfl (Nat.le_of_ble_eq_true rfl) rfl (gFit_rm (by decide) (by decide)) rfl ?_
        refine go_w (show _ = gLn σ m from rfl) ?_
        refine go_iload_n (q := 47) (gDec iX10_line_ok 22 rfl) rfl rfl rfl ?_
        refine go_i2l (q := 48) (gDec iX10_line_ok 23 rfl) rfl ?_
        refine go_lconst (v := 0) (q := 49) (gDec iX10_line_ok 24 rfl) (by decide) rfl ?_
        refine go_aload_n (q := 50) (gDec iX10_line_ok 25 rfl) rfl rfl rfl ?_
        refine go_getr (r' := 363) (q := 53) fX10_43 (gDec iX10_line_ok 26 rfl) rfl (by decide) rfl ?_
        refine go_callV (n2 := 0) (q := 56) kX10_405 ctX6_lineCount (gDec iX10_line_ok 27 rfl) rfl rfl (by decide) rfl rfl rfl (Nat.le_of_ble_eq_true rfl) rfl (gFit_rm (by decide) (by decide)) rfl ?_
        refine go_top (v' := nI n) (hne) ?_
        refine go_iconst (v := 1) (q := 57) (gDec iX10_line_ok 28 rfl) (by decide) rfl ?_
        refine go_isub (q := 58) (gDec iX10_line_ok 29 rfl) rfl ?_
        refine go_i2l (q := 59) (gDec iX10_line_ok 30 rfl) rfl ?_
        refine go_callS (n2 := 0) (q := 62) kX10_59 ctX10_isWithin (gDec iX10_line_ok 31 rfl) rfl rfl (Nat.le_of_ble_eq_true rfl) rfl (gFit_rm (by decide) (by decide)) rfl ?_
        refine go_top (v' := 1) (gWi_t (by rw [i2l_toInt, i2l_pred (by omega), show ((0 : Int64)).toInt = 0 from rfl]; exact h2)) ?_
        refine go_if_ne (t := 76) (q := 65) (gDec iX10_line_ok 32 rfl) (by decide) rfl (fun c62 => ?_) (fun c62 => False.elim (absurd c62 (by decide)))
        refine go_iload_n (q := 77) (gDec iX10_line_ok 38 rfl) rfl rfl rfl ?_
        refine go_lookup (off := 27) (t := 104) (gDec iX10_line_ok 39 rfl) (by decide) (by decide) (by decide) ?_
        refine go_aload_n (q := 105) (gDec iX10_line_ok 40 rfl) rfl rfl rfl ?_
        refine go_getr (r' := 363) (q := 108) fX10_43 (gDec iX10_line_ok 41 rfl) rfl (by decide) rfl ?_
        refine go_iload_n (q := 109) (gDec iX10_line_ok 42 rfl) rfl rfl rfl ?_
        refine go_callV (n2 := 0) (q := 112) kX10_414 (ctX6_lineWidth (i := j) (by omega)) (gDec iX10_line_ok 43 rfl) rfl rfl (by decide) rfl rfl rfl (Nat.le_of_ble_eq_true rfl) rfl (gFit_rm (by decide) (by decide)) rfl ?_
        exact go_ireturn (gDec iX10_line_ok 44 rfl) rfl rfl rfl rfl (by decide)
      · rw [if_neg (by decide), if_pos (show nI 1 = 1 from rfl)]
        refine go_iload_n (q := 1) (gDec iX10_line_ok 0 rfl) rfl rfl rfl ?_
        refine go_callS (n2 := 0) (q := 4) kX10_399 (ctX10_requireMeasure h1.1) (gDec iX10_line_ok 1 rfl) rfl rfl (Nat.le_of_ble_eq_true rfl) rfl (gFit_rm (by decide) (by decide)) rfl ?_
        refine go_iload_n (q := 5) (gDec iX10_line_ok 2 rfl) rfl rfl rfl ?_
        refine go_i2l (q := 6) (gDec iX10_line_ok 3 rfl) rfl ?_
        refine go_lconst (v := 0) (q := 7) (gDec iX10_line_ok 4 rfl) (by decide) rfl ?_
        refine go_ldc2 (q := 10) wX10_408 (gDec iX10_line_ok 5 rfl) rfl ?_
        refine go_callS (n2 := 0) (q := 13) kX10_59 ctX10_isWithin (gDec iX10_line_ok 6 rfl) rfl rfl (Nat.le_of_ble_eq_true rfl) rfl (gFit_rm (by decide) (by decide)) rfl ?_
        refine go_top (v' := 1) (gWi_t (by rw [i2l_toInt]; exact h1.2)) ?_
        refine go_if_ne (t := 27) (q := 16) (gDec iX10_line_ok 7 rfl) (by decide) rfl (fun c13 => ?_) (fun c13 => False.elim (absurd c13 (by decide)))
        refine go_aload_n (q := 28) (gDec iX10_line_ok 13 rfl) rfl rfl rfl ?_
        refine go_getr (r' := 363) (q := 31) fX10_43 (gDec iX10_line_ok 14 rfl) rfl (by decide) rfl ?_
        refine go_aload_n (q := 32) (gDec iX10_line_ok 15 rfl) rfl rfl rfl ?_
        refine go_getr (r' := 1) (q := 35) fX10_10 (gDec iX10_line_ok 16 rfl) rfl (by decide) rfl ?_
        refine go_callV (n2 := 0) (q := 38) kX10_388 (ctX6_set' hW hP) (gDec iX10_line_ok 17 rfl) rfl rfl (by decide) rfl rfl rfl (Nat.le_of_ble_eq_true rfl) rfl (gFit_rm (by decide) (by decide)) rfl ?_
        refine go_aload_n (q := 39) (gDec iX10_line_ok 18 rfl) rfl rfl rfl ?_
        refine go_getr (r' := 363) (q := 42) fX10_43 (gDec iX10_line_ok 19 rfl) rfl (by decide) rfl ?_
        refine go_iload_n (q := 43) (gDec iX10_line_ok 20 rfl) rfl rfl rfl ?_
        refine go_callV (n2 := 0) (q := 46) kX10_402 (ctX6_breakLines (gSet_pw hP).1) (gDec iX10_line_ok 21 rfl) rfl rfl (by decide) rfl rfl rfl (Nat.le_of_ble_eq_true rfl) rfl (gFit_rm (by decide) (by decide)) rfl ?_
        refine go_w (show _ = gLn σ m from rfl) ?_
        refine go_iload_n (q := 47) (gDec iX10_line_ok 22 rfl) rfl rfl rfl ?_
        refine go_i2l (q := 48) (gDec iX10_line_ok 23 rfl) rfl ?_
        refine go_lconst (v := 0) (q := 49) (gDec iX10_line_ok 24 rfl) (by decide) rfl ?_
        refine go_aload_n (q := 50) (gDec iX10_line_ok 25 rfl) rfl rfl rfl ?_
        refine go_getr (r' := 363) (q := 53) fX10_43 (gDec iX10_line_ok 26 rfl) rfl (by decide) rfl ?_
        refine go_callV (n2 := 0) (q := 56) kX10_405 ctX6_lineCount (gDec iX10_line_ok 27 rfl) rfl rfl (by decide) rfl rfl rfl (Nat.le_of_ble_eq_true rfl) rfl (gFit_rm (by decide) (by decide)) rfl ?_
        refine go_top (v' := nI n) (hne) ?_
        refine go_iconst (v := 1) (q := 57) (gDec iX10_line_ok 28 rfl) (by decide) rfl ?_
        refine go_isub (q := 58) (gDec iX10_line_ok 29 rfl) rfl ?_
        refine go_i2l (q := 59) (gDec iX10_line_ok 30 rfl) rfl ?_
        refine go_callS (n2 := 0) (q := 62) kX10_59 ctX10_isWithin (gDec iX10_line_ok 31 rfl) rfl rfl (Nat.le_of_ble_eq_true rfl) rfl (gFit_rm (by decide) (by decide)) rfl ?_
        refine go_top (v' := 1) (gWi_t (by rw [i2l_toInt, i2l_pred (by omega), show ((0 : Int64)).toInt = 0 from rfl]; exact h2)) ?_
        refine go_if_ne (t := 76) (q := 65) (gDec iX10_line_ok 32 rfl) (by decide) rfl (fun c62 => ?_) (fun c62 => False.elim (absurd c62 (by decide)))
        refine go_iload_n (q := 77) (gDec iX10_line_ok 38 rfl) rfl rfl rfl ?_
        refine go_lookup (off := 36) (t := 113) (gDec iX10_line_ok 39 rfl) (by decide) (by decide) (by decide) ?_
        refine go_aload_n (q := 114) (gDec iX10_line_ok 45 rfl) rfl rfl rfl ?_
        refine go_getr (r' := 363) (q := 117) fX10_43 (gDec iX10_line_ok 46 rfl) rfl (by decide) rfl ?_
        refine go_iload_n (q := 118) (gDec iX10_line_ok 47 rfl) rfl rfl rfl ?_
        refine go_callV (n2 := 0) (q := 121) kX10_417 (ctX6_lineStart (i := j) (by omega)) (gDec iX10_line_ok 48 rfl) rfl rfl (by decide) rfl rfl rfl (Nat.le_of_ble_eq_true rfl) rfl (gFit_rm (by decide) (by decide)) rfl ?_
        exact go_ireturn (gDec iX10_line_ok 49 rfl) rfl rfl rfl rfl (by decide)
      · rw [if_neg (by decide), if_neg (by decide)]
        refine go_iload_n (q := 1) (gDec iX10_line_ok 0 rfl) rfl rfl rfl ?_
        refine go_callS (n2 := 0) (q := 4) kX10_399 (ctX10_requireMeasure h1.1) (gDec iX10_line_ok 1 rfl) rfl rfl (Nat.le_of_ble_eq_true rfl) rfl (gFit_rm (by decide) (by decide)) rfl ?_
        refine go_iload_n (q := 5) (gDec iX10_line_ok 2 rfl) rfl rfl rfl ?_
        refine go_i2l (q := 6) (gDec iX10_line_ok 3 rfl) rfl ?_
        refine go_lconst (v := 0) (q := 7) (gDec iX10_line_ok 4 rfl) (by decide) rfl ?_
        refine go_ldc2 (q := 10) wX10_408 (gDec iX10_line_ok 5 rfl) rfl ?_
        refine go_callS (n2 := 0) (q := 13) kX10_59 ctX10_isWithin (gDec iX10_line_ok 6 rfl) rfl rfl (Nat.le_of_ble_eq_true rfl) rfl (gFit_rm (by decide) (by decide)) rfl ?_
        refine go_top (v' := 1) (gWi_t (by rw [i2l_toInt]; exact h1.2)) ?_
        refine go_if_ne (t := 27) (q := 16) (gDec iX10_line_ok 7 rfl) (by decide) rfl (fun c13 => ?_) (fun c13 => False.elim (absurd c13 (by decide)))
        refine go_aload_n (q := 28) (gDec iX10_line_ok 13 rfl) rfl rfl rfl ?_
        refine go_getr (r' := 363) (q := 31) fX10_43 (gDec iX10_line_ok 14 rfl) rfl (by decide) rfl ?_
        refine go_aload_n (q := 32) (gDec iX10_line_ok 15 rfl) rfl rfl rfl ?_
        refine go_getr (r' := 1) (q := 35) fX10_10 (gDec iX10_line_ok 16 rfl) rfl (by decide) rfl ?_
        refine go_callV (n2 := 0) (q := 38) kX10_388 (ctX6_set' hW hP) (gDec iX10_line_ok 17 rfl) rfl rfl (by decide) rfl rfl rfl (Nat.le_of_ble_eq_true rfl) rfl (gFit_rm (by decide) (by decide)) rfl ?_
        refine go_aload_n (q := 39) (gDec iX10_line_ok 18 rfl) rfl rfl rfl ?_
        refine go_getr (r' := 363) (q := 42) fX10_43 (gDec iX10_line_ok 19 rfl) rfl (by decide) rfl ?_
        refine go_iload_n (q := 43) (gDec iX10_line_ok 20 rfl) rfl rfl rfl ?_
        refine go_callV (n2 := 0) (q := 46) kX10_402 (ctX6_breakLines (gSet_pw hP).1) (gDec iX10_line_ok 21 rfl) rfl rfl (by decide) rfl rfl rfl (Nat.le_of_ble_eq_true rfl) rfl (gFit_rm (by decide) (by decide)) rfl ?_
        refine go_w (show _ = gLn σ m from rfl) ?_
        refine go_iload_n (q := 47) (gDec iX10_line_ok 22 rfl) rfl rfl rfl ?_
        refine go_i2l (q := 48) (gDec iX10_line_ok 23 rfl) rfl ?_
        refine go_lconst (v := 0) (q := 49) (gDec iX10_line_ok 24 rfl) (by decide) rfl ?_
        refine go_aload_n (q := 50) (gDec iX10_line_ok 25 rfl) rfl rfl rfl ?_
        refine go_getr (r' := 363) (q := 53) fX10_43 (gDec iX10_line_ok 26 rfl) rfl (by decide) rfl ?_
        refine go_callV (n2 := 0) (q := 56) kX10_405 ctX6_lineCount (gDec iX10_line_ok 27 rfl) rfl rfl (by decide) rfl rfl rfl (Nat.le_of_ble_eq_true rfl) rfl (gFit_rm (by decide) (by decide)) rfl ?_
        refine go_top (v' := nI n) (hne) ?_
        refine go_iconst (v := 1) (q := 57) (gDec iX10_line_ok 28 rfl) (by decide) rfl ?_
        refine go_isub (q := 58) (gDec iX10_line_ok 29 rfl) rfl ?_
        refine go_i2l (q := 59) (gDec iX10_line_ok 30 rfl) rfl ?_
        refine go_callS (n2 := 0) (q := 62) kX10_59 ctX10_isWithin (gDec iX10_line_ok 31 rfl) rfl rfl (Nat.le_of_ble_eq_true rfl) rfl (gFit_rm (by decide) (by decide)) rfl ?_
        refine go_top (v' := 1) (gWi_t (by rw [i2l_toInt, i2l_pred (by omega), show ((0 : Int64)).toInt = 0 from rfl]; exact h2)) ?_
        refine go_if_ne (t := 76) (q := 65) (gDec iX10_line_ok 32 rfl) (by decide) rfl (fun c62 => ?_) (fun c62 => False.elim (absurd c62 (by decide)))
        refine go_iload_n (q := 77) (gDec iX10_line_ok 38 rfl) rfl rfl rfl ?_
        refine go_lookup (off := 45) (t := 122) (gDec iX10_line_ok 39 rfl) (by decide) (by decide) (by decide) ?_
        refine go_aload_n (q := 123) (gDec iX10_line_ok 50 rfl) rfl rfl rfl ?_
        refine go_getr (r' := 363) (q := 126) fX10_43 (gDec iX10_line_ok 51 rfl) rfl (by decide) rfl ?_
        refine go_iload_n (q := 127) (gDec iX10_line_ok 52 rfl) rfl rfl rfl ?_
        refine go_callV (n2 := 0) (q := 130) kX10_420 (ctX6_lineWords (i := j) (by omega)) (gDec iX10_line_ok 53 rfl) rfl rfl (by decide) rfl rfl rfl (Nat.le_of_ble_eq_true rfl) rfl (gFit_rm (by decide) (by decide)) rfl ?_
        exact go_ireturn (gDec iX10_line_ok 54 rfl) rfl rfl rfl rfl (by decide)
    · rw [if_neg h2]
      refine go_iload_n (q := 1) (gDec iX10_line_ok 0 rfl) rfl rfl rfl ?_
      refine go_callS (n2 := 0) (q := 4) kX10_399 (ctX10_requireMeasure h1.1) (gDec iX10_line_ok 1 rfl) rfl rfl (Nat.le_of_ble_eq_true rfl) rfl (gFit_rm (by decide) (by decide)) rfl ?_
      refine go_iload_n (q := 5) (gDec iX10_line_ok 2 rfl) rfl rfl rfl ?_
      refine go_i2l (q := 6) (gDec iX10_line_ok 3 rfl) rfl ?_
      refine go_lconst (v := 0) (q := 7) (gDec iX10_line_ok 4 rfl) (by decide) rfl ?_
      refine go_ldc2 (q := 10) wX10_408 (gDec iX10_line_ok 5 rfl) rfl ?_
      refine go_callS (n2 := 0) (q := 13) kX10_59 ctX10_isWithin (gDec iX10_line_ok 6 rfl) rfl rfl (Nat.le_of_ble_eq_true rfl) rfl (gFit_rm (by decide) (by decide)) rfl ?_
      refine go_top (v' := 1) (gWi_t (by rw [i2l_toInt]; exact h1.2)) ?_
      refine go_if_ne (t := 27) (q := 16) (gDec iX10_line_ok 7 rfl) (by decide) rfl (fun c13 => ?_) (fun c13 => False.elim (absurd c13 (by decide)))
      refine go_aload_n (q := 28) (gDec iX10_line_ok 13 rfl) rfl rfl rfl ?_
      refine go_getr (r' := 363) (q := 31) fX10_43 (gDec iX10_line_ok 14 rfl) rfl (by decide) rfl ?_
      refine go_aload_n (q := 32) (gDec iX10_line_ok 15 rfl) rfl rfl rfl ?_
      refine go_getr (r' := 1) (q := 35) fX10_10 (gDec iX10_line_ok 16 rfl) rfl (by decide) rfl ?_
      refine go_callV (n2 := 0) (q := 38) kX10_388 (ctX6_set' hW hP) (gDec iX10_line_ok 17 rfl) rfl rfl (by decide) rfl rfl rfl (Nat.le_of_ble_eq_true rfl) rfl (gFit_rm (by decide) (by decide)) rfl ?_
      refine go_aload_n (q := 39) (gDec iX10_line_ok 18 rfl) rfl rfl rfl ?_
      refine go_getr (r' := 363) (q := 42) fX10_43 (gDec iX10_line_ok 19 rfl) rfl (by decide) rfl ?_
      refine go_iload_n (q := 43) (gDec iX10_line_ok 20 rfl) rfl rfl rfl ?_
      refine go_callV (n2 := 0) (q := 46) kX10_402 (ctX6_breakLines (gSet_pw hP).1) (gDec iX10_line_ok 21 rfl) rfl rfl (by decide) rfl rfl rfl (Nat.le_of_ble_eq_true rfl) rfl (gFit_rm (by decide) (by decide)) rfl ?_
      refine go_w (show _ = gLn σ m from rfl) ?_
      refine go_iload_n (q := 47) (gDec iX10_line_ok 22 rfl) rfl rfl rfl ?_
      refine go_i2l (q := 48) (gDec iX10_line_ok 23 rfl) rfl ?_
      refine go_lconst (v := 0) (q := 49) (gDec iX10_line_ok 24 rfl) (by decide) rfl ?_
      refine go_aload_n (q := 50) (gDec iX10_line_ok 25 rfl) rfl rfl rfl ?_
      refine go_getr (r' := 363) (q := 53) fX10_43 (gDec iX10_line_ok 26 rfl) rfl (by decide) rfl ?_
      refine go_callV (n2 := 0) (q := 56) kX10_405 ctX6_lineCount (gDec iX10_line_ok 27 rfl) rfl rfl (by decide) rfl rfl rfl (Nat.le_of_ble_eq_true rfl) rfl (gFit_rm (by decide) (by decide)) rfl ?_
      refine go_top (v' := nI n) (hne) ?_
      refine go_iconst (v := 1) (q := 57) (gDec iX10_line_ok 28 rfl) (by decide) rfl ?_
      refine go_isub (q := 58) (gDec iX10_line_ok 29 rfl) rfl ?_
      refine go_i2l (q := 59) (gDec iX10_line_ok 30 rfl) rfl ?_
      refine go_callS (n2 := 0) (q := 62) kX10_59 ctX10_isWithin (gDec iX10_line_ok 31 rfl) rfl rfl (Nat.le_of_ble_eq_true rfl) rfl (gFit_rm (by decide) (by decide)) rfl ?_
      refine go_top (v' := 0) (gWi_f (by rw [i2l_toInt, i2l_pred (by omega), show ((0 : Int64)).toInt = 0 from rfl]; exact h2)) ?_
      refine go_if_ne (t := 76) (q := 65) (gDec iX10_line_ok 32 rfl) (by decide) rfl (fun c62 => False.elim (c62 rfl)) (fun c62 => ?_)
      exact go_throwW th_NoSuchElementException (List.mem_of_getElem? (i := 32) rfl) rfl rfl (gDec iX10_line_ok 33 rfl) (gDec iX10_line_ok 34 rfl) (gDec iX10_line_ok 35 rfl) (gDec iX10_line_ok 36 rfl) (gDec iX10_line_ok 37 rfl) (by decide) (by decide)
  · rw [show fLine σ m i w = _ from if_neg h1]
    by_cases h3 : 1 ≤ m.toInt ∧ m.toInt ≤ 100000
    · have h4 : ¬ (0 ≤ w.toInt ∧ w.toInt ≤ 2) := fun h9 => h1 ⟨h3, h9⟩
      refine go_iload_n (q := 1) (gDec iX10_line_ok 0 rfl) rfl rfl rfl ?_
      refine go_callS (n2 := 0) (q := 4) kX10_399 (ctX10_requireMeasure h3) (gDec iX10_line_ok 1 rfl) rfl rfl (Nat.le_of_ble_eq_true rfl) rfl (gFit_rm (by decide) (by decide)) rfl ?_
      refine go_iload_n (q := 5) (gDec iX10_line_ok 2 rfl) rfl rfl rfl ?_
      refine go_i2l (q := 6) (gDec iX10_line_ok 3 rfl) rfl ?_
      refine go_lconst (v := 0) (q := 7) (gDec iX10_line_ok 4 rfl) (by decide) rfl ?_
      refine go_ldc2 (q := 10) wX10_408 (gDec iX10_line_ok 5 rfl) rfl ?_
      refine go_callS (n2 := 0) (q := 13) kX10_59 ctX10_isWithin (gDec iX10_line_ok 6 rfl) rfl rfl (Nat.le_of_ble_eq_true rfl) rfl (gFit_rm (by decide) (by decide)) rfl ?_
      refine go_top (v' := 0) (gWi_f (by rw [i2l_toInt]; exact h4)) ?_
      refine go_if_ne (t := 27) (q := 16) (gDec iX10_line_ok 7 rfl) (by decide) rfl (fun c13 => False.elim (c13 rfl)) (fun c13 => ?_)
      exact go_throwW th_IllegalArgumentException (List.mem_of_getElem? (i := 31) rfl) rfl rfl (gDec iX10_line_ok 8 rfl) (gDec iX10_line_ok 9 rfl) (gDec iX10_line_ok 10 rfl) (gDec iX10_line_ok 11 rfl) (gDec iX10_line_ok 12 rfl) (by decide) (by decide)
    · skip
      refine go_iload_n (q := 1) (gDec iX10_line_ok 0 rfl) rfl rfl rfl ?_
      exact go_callS_x kX10_399 (ctX10_requireMeasure_x h3) (gDec iX10_line_ok 1 rfl) rfl rfl (Nat.le_of_ble_eq_true rfl) (gFit_rm (by decide) (by decide)) rfl
