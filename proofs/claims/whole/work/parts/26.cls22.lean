abbrev gInt2 (n : Int) (a b : Int32) : Prop := (0 ≤ a.toInt ∧ a.toInt ≤ n) ∧ (0 ≤ b.toInt ∧ b.toInt ≤ n)
theorem gInt2.ex {n : Nat} {a b : Int32} (h : gInt2 n a b) : ∃ i j : Nat, i ≤ n ∧ j ≤ n ∧ a = nI i ∧ b = nI j := gIn2_ex h
def gTlC (σ : gST) (a b : Nat) (v : Int32) : gST := gPut (if σ.1 26 (a * 6 + b) = 301 then gPut σ 20 4 (σ.1 20 4 + 1) else σ) 26 (a * 6 + b) v
def gTlP (σ : gST) (a b : Nat) (v : Int32) : gST := gPut (if σ.1 28 (a * 24 + b) = 301 then gPut σ 20 5 (σ.1 20 5 + 1) else σ) 28 (a * 24 + b) v
def fKernClasses (σ : gST) (a b v : Int32) : gO × gST := if gInt2 5 a b then
    if -300 ≤ v.toInt ∧ v.toInt ≤ 300 then (rI ((gTlC (gRem σ) (nA a) (nA b) v).1 20 4), gTlC (gRem σ) (nA a) (nA b) v) else (xIAE, σ)
  else (xIOB, σ)
def fKernPair (σ : gST) (g h v : Int32) : gO × gST := if gInG σ g ∧ gInG σ h then
    if -300 ≤ v.toInt ∧ v.toInt ≤ 300 then
      if ¬ σ.1 20 5 < 40 ∧ σ.1 28 (nA g * 24 + nA h) = 301 then (xISE, σ) else (rI ((gTlP (gRem σ) (nA g) (nA h) v).1 20 5), gTlP (gRem σ) (nA g) (nA h) v)
    else (xIAE, σ)
  else (xIOB, σ)

set_option maxHeartbeats 4000000 in
set_option maxRecDepth 100000 in
theorem ctX10_kernClasses {κ : gK} {σ : gST} {a b v : Int32} (hW : gDW σ) (hH : gHW σ) : gCt κ mX10_kernClasses 9 [.ref (κ.2.1 + 0), .int a, .int b, .int v] σ (fKernClasses σ a b v).1 (fKernClasses σ a b v).2 1 := by
  refine ct_of (by decide +kernel) rfl (Nat.le_of_ble_eq_true rfl) rfl ?_
  by_cases h1 : gInt2 5 a b
  · have hs : fKernClasses σ a b v = _ := if_pos h1
    rw [hs]
    by_cases h2 : -300 ≤ v.toInt ∧ v.toInt ≤ 300
    · rw [if_pos h2]
      obtain ⟨i, j, hi, hj, rfl, rfl⟩ := gInt2.ex (n := 5) h1
      rw [nA_nI (n := i) (by omega), nA_nI (n := j) (by omega)]
      refine go_iload_n (q := 1) (gDec iX10_kernClasses_ok 0 rfl) rfl rfl rfl ?_
      refine go_iload_n (q := 2) (gDec iX10_kernClasses_ok 1 rfl) rfl rfl rfl ?_
      refine go_callS (n2 := 0) (q := 5) kX10_257 (ctX4_areClasses h1) (gDec iX10_kernClasses_ok 2 rfl) rfl rfl (Nat.le_of_ble_eq_true rfl) rfl (gFit_rm (by decide) (by decide)) rfl ?_
      refine go_if_ne (t := 18) (q := 8) (gDec iX10_kernClasses_ok 3 rfl) (by decide) rfl (fun c5 => ?_) (fun c5 => False.elim (absurd c5 (by decide)))
      refine go_iload_n (q := 19) (gDec iX10_kernClasses_ok 9 rfl) rfl rfl rfl ?_
      refine go_callS (n2 := 0) (q := 22) kX10_263 (ctX10_requireKern h2) (gDec iX10_kernClasses_ok 10 rfl) rfl rfl (Nat.le_of_ble_eq_true rfl) rfl (gFit_rm (by decide) (by decide)) rfl ?_
      refine go_aload_n (q := 23) (gDec iX10_kernClasses_ok 11 rfl) rfl rfl rfl ?_
      refine go_getr (r' := 71) (q := 26) fX10_22 (gDec iX10_kernClasses_ok 12 rfl) rfl (by decide) rfl ?_
      refine go_aload_n (q := 27) (gDec iX10_kernClasses_ok 13 rfl) rfl rfl rfl ?_
      refine go_getr (r' := 1) (q := 30) fX10_10 (gDec iX10_kernClasses_ok 14 rfl) rfl (by decide) rfl ?_
      refine go_callV (n2 := 0) (q := 33) kX10_89 (ctX3_rem hH) (gDec iX10_kernClasses_ok 15 rfl) rfl rfl (by decide) rfl rfl rfl (Nat.le_of_ble_eq_true rfl) rfl (gFit_rm (by decide) (by decide)) rfl ?_
      refine go_aload_n (q := 34) (gDec iX10_kernClasses_ok 16 rfl) rfl rfl rfl ?_
      refine go_getr (r' := 1) (q := 37) fX10_10 (gDec iX10_kernClasses_ok 17 rfl) rfl (by decide) rfl ?_
      refine go_getr (r' := 20) (q := 40) fX10_153 (gDec iX10_kernClasses_ok 18 rfl) rfl (by decide) rfl ?_
      refine go_iload_n (q := 41) (gDec iX10_kernClasses_ok 19 rfl) rfl rfl rfl ?_
      refine go_iload_n (q := 42) (gDec iX10_kernClasses_ok 20 rfl) rfl rfl rfl ?_
      refine go_iload_n (q := 43) (gDec iX10_kernClasses_ok 21 rfl) rfl rfl rfl ?_
      refine go_callV (n2 := 0) (q := 46) kX10_266 (ctX4_tellClasses (a := i) (b := j) (by omega) (by omega)) (gDec iX10_kernClasses_ok 22 rfl) rfl rfl (by decide) rfl rfl rfl (Nat.le_of_ble_eq_true rfl) rfl (gFit_rm (by decide) (by decide)) rfl ?_
      refine go_aload_n (q := 47) (gDec iX10_kernClasses_ok 23 rfl) rfl rfl rfl ?_
      refine go_getr (r' := 1) (q := 50) fX10_10 (gDec iX10_kernClasses_ok 24 rfl) rfl (by decide) rfl ?_
      refine go_getr (r' := 20) (q := 53) fX10_153 (gDec iX10_kernClasses_ok 25 rfl) rfl (by decide) rfl ?_
      refine go_callV (n2 := 0) (q := 56) kX10_269 ctX4_classKernCount (gDec iX10_kernClasses_ok 26 rfl) rfl rfl (by decide) rfl rfl rfl (Nat.le_of_ble_eq_true rfl) rfl (gFit_rm (by decide) (by decide)) rfl ?_
      exact go_ireturn (gDec iX10_kernClasses_ok 27 rfl) rfl rfl rfl rfl (by decide)
    · rw [if_neg h2]
      refine go_iload_n (q := 1) (gDec iX10_kernClasses_ok 0 rfl) rfl rfl rfl ?_
      refine go_iload_n (q := 2) (gDec iX10_kernClasses_ok 1 rfl) rfl rfl rfl ?_
      refine go_callS (n2 := 0) (q := 5) kX10_257 (ctX4_areClasses h1) (gDec iX10_kernClasses_ok 2 rfl) rfl rfl (Nat.le_of_ble_eq_true rfl) rfl (gFit_rm (by decide) (by decide)) rfl ?_
      refine go_if_ne (t := 18) (q := 8) (gDec iX10_kernClasses_ok 3 rfl) (by decide) rfl (fun c5 => ?_) (fun c5 => False.elim (absurd c5 (by decide)))
      refine go_iload_n (q := 19) (gDec iX10_kernClasses_ok 9 rfl) rfl rfl rfl ?_
      exact go_callS_x kX10_263 (ctX10_requireKern_x h2) (gDec iX10_kernClasses_ok 10 rfl) rfl rfl (Nat.le_of_ble_eq_true rfl) (gFit_rm (by decide) (by decide)) rfl
  · rw [show fKernClasses σ a b v = (xIOB, σ) from if_neg h1]
    refine go_iload_n (q := 1) (gDec iX10_kernClasses_ok 0 rfl) rfl rfl rfl ?_
    refine go_iload_n (q := 2) (gDec iX10_kernClasses_ok 1 rfl) rfl rfl rfl ?_
    refine go_callS (n2 := 0) (q := 5) kX10_257 (ctX4_areClasses0 h1) (gDec iX10_kernClasses_ok 2 rfl) rfl rfl (Nat.le_of_ble_eq_true rfl) rfl (gFit_rm (by decide) (by decide)) rfl ?_
    refine go_if_ne (t := 18) (q := 8) (gDec iX10_kernClasses_ok 3 rfl) (by decide) rfl (fun c5 => False.elim (c5 rfl)) (fun c5 => ?_)
    exact go_throw th_IndexOutOfBoundsException (List.mem_of_getElem? (i := 15) rfl) rfl rfl (gDec iX10_kernClasses_ok 4 rfl) (gDec iX10_kernClasses_ok 5 rfl) (gDec iX10_kernClasses_ok 6 rfl) (gDec iX10_kernClasses_ok 7 rfl) (gDec iX10_kernClasses_ok 8 rfl) (by decide) (by decide)

set_option maxHeartbeats 4000000 in
set_option maxRecDepth 100000 in
theorem ctX10_kernPair {κ : gK} {σ : gST} {g h v : Int32} (hW : gDW σ) (hH : gHW σ) : gCt κ mX10_kernPair 9 [.ref (κ.2.1 + 0), .int g, .int h, .int v] σ (fKernPair σ g h v).1 (fKernPair σ g h v).2 1 := by
  refine ct_of (by decide +kernel) rfl (Nat.le_of_ble_eq_true rfl) rfl ?_
  by_cases h1 : gInG σ g
  · by_cases h1b : gInG σ h
    · have hs : fKernPair σ g h v = _ := if_pos ⟨h1, h1b⟩
      rw [hs]
      obtain ⟨i, hi, rfl⟩ := gInG.ex h1
      obtain ⟨j, hj, rfl⟩ := gInG.ex h1b
      have h24 := hW.ng24
      rw [nA_nI (n := i) (by omega), nA_nI (n := j) (by omega)]
      by_cases h2 : -300 ≤ v.toInt ∧ v.toInt ≤ 300
      · rw [if_pos h2]
        by_cases h3 : σ.1 20 5 < 40
        · rw [if_neg (fun h9 => h9.1 h3)]
          refine go_aload_n (q := 1) (gDec iX10_kernPair_ok 0 rfl) rfl rfl rfl ?_
          refine go_iload_n (q := 2) (gDec iX10_kernPair_ok 1 rfl) rfl rfl rfl ?_
          refine go_callV (n2 := 0) (q := 5) kX10_96 (ctX10_rG hW hi) (gDec iX10_kernPair_ok 2 rfl) rfl rfl (by decide) rfl rfl rfl (Nat.le_of_ble_eq_true rfl) rfl (gFit_rm (by decide) (by decide)) rfl ?_
          refine go_aload_n (q := 6) (gDec iX10_kernPair_ok 3 rfl) rfl rfl rfl ?_
          refine go_iload_n (q := 7) (gDec iX10_kernPair_ok 4 rfl) rfl rfl rfl ?_
          refine go_callV (n2 := 0) (q := 10) kX10_96 (ctX10_rG hW hj) (gDec iX10_kernPair_ok 5 rfl) rfl rfl (by decide) rfl rfl rfl (Nat.le_of_ble_eq_true rfl) rfl (gFit_rm (by decide) (by decide)) rfl ?_
          refine go_iload_n (q := 11) (gDec iX10_kernPair_ok 6 rfl) rfl rfl rfl ?_
          refine go_callS (n2 := 0) (q := 14) kX10_263 (ctX10_requireKern h2) (gDec iX10_kernPair_ok 7 rfl) rfl rfl (Nat.le_of_ble_eq_true rfl) rfl (gFit_rm (by decide) (by decide)) rfl ?_
          refine go_aload_n (q := 15) (gDec iX10_kernPair_ok 8 rfl) rfl rfl rfl ?_
          refine go_getr (r' := 1) (q := 18) fX10_10 (gDec iX10_kernPair_ok 9 rfl) rfl (by decide) rfl ?_
          refine go_getr (r' := 20) (q := 21) fX10_153 (gDec iX10_kernPair_ok 10 rfl) rfl (by decide) rfl ?_
          refine go_callV (n2 := 0) (q := 24) kX10_273 ctX4_pairKernCount (gDec iX10_kernPair_ok 11 rfl) rfl rfl (by decide) rfl rfl rfl (Nat.le_of_ble_eq_true rfl) rfl (gFit_rm (by decide) (by decide)) rfl ?_
          refine go_bipush (v := 40) (q := 26) (gDec iX10_kernPair_ok 12 rfl) (by decide) rfl ?_
          refine go_icmp_lt (t := 55) (q := 29) (gDec iX10_kernPair_ok 13 rfl) (by decide) rfl (fun c26 => ?_) (fun c26 => False.elim (c26 h3))
          refine go_aload_n (q := 56) (gDec iX10_kernPair_ok 26 rfl) rfl rfl rfl ?_
          refine go_getr (r' := 71) (q := 59) fX10_22 (gDec iX10_kernPair_ok 27 rfl) rfl (by decide) rfl ?_
          refine go_aload_n (q := 60) (gDec iX10_kernPair_ok 28 rfl) rfl rfl rfl ?_
          refine go_getr (r' := 1) (q := 63) fX10_10 (gDec iX10_kernPair_ok 29 rfl) rfl (by decide) rfl ?_
          refine go_callV (n2 := 0) (q := 66) kX10_89 (ctX3_rem hH) (gDec iX10_kernPair_ok 30 rfl) rfl rfl (by decide) rfl rfl rfl (Nat.le_of_ble_eq_true rfl) rfl (gFit_rm (by decide) (by decide)) rfl ?_
          refine go_aload_n (q := 67) (gDec iX10_kernPair_ok 31 rfl) rfl rfl rfl ?_
          refine go_getr (r' := 1) (q := 70) fX10_10 (gDec iX10_kernPair_ok 32 rfl) rfl (by decide) rfl ?_
          refine go_getr (r' := 20) (q := 73) fX10_153 (gDec iX10_kernPair_ok 33 rfl) rfl (by decide) rfl ?_
          refine go_iload_n (q := 74) (gDec iX10_kernPair_ok 34 rfl) rfl rfl rfl ?_
          refine go_iload_n (q := 75) (gDec iX10_kernPair_ok 35 rfl) rfl rfl rfl ?_
          refine go_iload_n (q := 76) (gDec iX10_kernPair_ok 36 rfl) rfl rfl rfl ?_
          refine go_callV (n2 := 0) (q := 79) kX10_281 (ctX4_tellPair (a := i) (b := j) (by omega) (by omega)) (gDec iX10_kernPair_ok 37 rfl) rfl rfl (by decide) rfl rfl rfl (Nat.le_of_ble_eq_true rfl) rfl (gFit_rm (by decide) (by decide)) rfl ?_
          refine go_aload_n (q := 80) (gDec iX10_kernPair_ok 38 rfl) rfl rfl rfl ?_
          refine go_getr (r' := 1) (q := 83) fX10_10 (gDec iX10_kernPair_ok 39 rfl) rfl (by decide) rfl ?_
          refine go_getr (r' := 20) (q := 86) fX10_153 (gDec iX10_kernPair_ok 40 rfl) rfl (by decide) rfl ?_
          refine go_callV (n2 := 0) (q := 89) kX10_273 ctX4_pairKernCount (gDec iX10_kernPair_ok 41 rfl) rfl rfl (by decide) rfl rfl rfl (Nat.le_of_ble_eq_true rfl) rfl (gFit_rm (by decide) (by decide)) rfl ?_
          exact go_ireturn (gDec iX10_kernPair_ok 42 rfl) rfl rfl rfl rfl (by decide)
        · by_cases h4 : σ.1 28 (i * 24 + j) = 301
          · rw [if_pos ⟨h3, h4⟩]
            refine go_aload_n (q := 1) (gDec iX10_kernPair_ok 0 rfl) rfl rfl rfl ?_
            refine go_iload_n (q := 2) (gDec iX10_kernPair_ok 1 rfl) rfl rfl rfl ?_
            refine go_callV (n2 := 0) (q := 5) kX10_96 (ctX10_rG hW hi) (gDec iX10_kernPair_ok 2 rfl) rfl rfl (by decide) rfl rfl rfl (Nat.le_of_ble_eq_true rfl) rfl (gFit_rm (by decide) (by decide)) rfl ?_
            refine go_aload_n (q := 6) (gDec iX10_kernPair_ok 3 rfl) rfl rfl rfl ?_
            refine go_iload_n (q := 7) (gDec iX10_kernPair_ok 4 rfl) rfl rfl rfl ?_
            refine go_callV (n2 := 0) (q := 10) kX10_96 (ctX10_rG hW hj) (gDec iX10_kernPair_ok 5 rfl) rfl rfl (by decide) rfl rfl rfl (Nat.le_of_ble_eq_true rfl) rfl (gFit_rm (by decide) (by decide)) rfl ?_
            refine go_iload_n (q := 11) (gDec iX10_kernPair_ok 6 rfl) rfl rfl rfl ?_
            refine go_callS (n2 := 0) (q := 14) kX10_263 (ctX10_requireKern h2) (gDec iX10_kernPair_ok 7 rfl) rfl rfl (Nat.le_of_ble_eq_true rfl) rfl (gFit_rm (by decide) (by decide)) rfl ?_
            refine go_aload_n (q := 15) (gDec iX10_kernPair_ok 8 rfl) rfl rfl rfl ?_
            refine go_getr (r' := 1) (q := 18) fX10_10 (gDec iX10_kernPair_ok 9 rfl) rfl (by decide) rfl ?_
            refine go_getr (r' := 20) (q := 21) fX10_153 (gDec iX10_kernPair_ok 10 rfl) rfl (by decide) rfl ?_
            refine go_callV (n2 := 0) (q := 24) kX10_273 ctX4_pairKernCount (gDec iX10_kernPair_ok 11 rfl) rfl rfl (by decide) rfl rfl rfl (Nat.le_of_ble_eq_true rfl) rfl (gFit_rm (by decide) (by decide)) rfl ?_
            refine go_bipush (v := 40) (q := 26) (gDec iX10_kernPair_ok 12 rfl) (by decide) rfl ?_
            refine go_icmp_lt (t := 55) (q := 29) (gDec iX10_kernPair_ok 13 rfl) (by decide) rfl (fun c26 => False.elim (h3 c26)) (fun c26 => ?_)
            refine go_aload_n (q := 30) (gDec iX10_kernPair_ok 14 rfl) rfl rfl rfl ?_
            refine go_getr (r' := 1) (q := 33) fX10_10 (gDec iX10_kernPair_ok 15 rfl) rfl (by decide) rfl ?_
            refine go_getr (r' := 20) (q := 36) fX10_153 (gDec iX10_kernPair_ok 16 rfl) rfl (by decide) rfl ?_
            refine go_iload_n (q := 37) (gDec iX10_kernPair_ok 17 rfl) rfl rfl rfl ?_
            refine go_iload_n (q := 38) (gDec iX10_kernPair_ok 18 rfl) rfl rfl rfl ?_
            refine go_callV (n2 := 0) (q := 41) kX10_276 (ctX4_isPairTold (a := i) (b := j) (by omega) (by omega)) (gDec iX10_kernPair_ok 19 rfl) rfl rfl (by decide) rfl rfl rfl (Nat.le_of_ble_eq_true rfl) rfl (gFit_rm (by decide) (by decide)) rfl ?_
            refine go_if_ne (t := 55) (q := 44) (gDec iX10_kernPair_ok 20 rfl) (by decide) rfl (fun c41 => False.elim (by rw [if_pos h4] at c41; exact c41 rfl)) (fun c41 => ?_)
            exact go_throwW th_IllegalStateException (List.mem_of_getElem? (i := 17) rfl) rfl rfl (gDec iX10_kernPair_ok 21 rfl) (gDec iX10_kernPair_ok 22 rfl) (gDec iX10_kernPair_ok 23 rfl) (gDec iX10_kernPair_ok 24 rfl) (gDec iX10_kernPair_ok 25 rfl) (by decide) (by decide)
          · rw [if_neg (fun h9 => h4 h9.2)]
            refine go_aload_n (q := 1) (gDec iX10_kernPair_ok 0 rfl) rfl rfl rfl ?_
            refine go_iload_n (q := 2) (gDec iX10_kernPair_ok 1 rfl) rfl rfl rfl ?_
            refine go_callV (n2 := 0) (q := 5) kX10_96 (ctX10_rG hW hi) (gDec iX10_kernPair_ok 2 rfl) rfl rfl (by decide) rfl rfl rfl (Nat.le_of_ble_eq_true rfl) rfl (gFit_rm (by decide) (by decide)) rfl ?_
            refine go_aload_n (q := 6) (gDec iX10_kernPair_ok 3 rfl) rfl rfl rfl ?_
            refine go_iload_n (q := 7) (gDec iX10_kernPair_ok 4 rfl) rfl rfl rfl ?_
            refine go_callV (n2 := 0) (q := 10) kX10_96 (ctX10_rG hW hj) (gDec iX10_kernPair_ok 5 rfl) rfl rfl (by decide) rfl rfl rfl (Nat.le_of_ble_eq_true rfl) rfl (gFit_rm (by decide) (by decide)) rfl ?_
            refine go_iload_n (q := 11) (gDec iX10_kernPair_ok 6 rfl) rfl rfl rfl ?_
            refine go_callS (n2 := 0) (q := 14) kX10_263 (ctX10_requireKern h2) (gDec iX10_kernPair_ok 7 rfl) rfl rfl (Nat.le_of_ble_eq_true rfl) rfl (gFit_rm (by decide) (by decide)) rfl ?_
            refine go_aload_n (q := 15) (gDec iX10_kernPair_ok 8 rfl) rfl rfl rfl ?_
            refine go_getr (r' := 1) (q := 18) fX10_10 (gDec iX10_kernPair_ok 9 rfl) rfl (by decide) rfl ?_
            refine go_getr (r' := 20) (q := 21) fX10_153 (gDec iX10_kernPair_ok 10 rfl) rfl (by decide) rfl ?_
            refine go_callV (n2 := 0) (q := 24) kX10_273 ctX4_pairKernCount (gDec iX10_kernPair_ok 11 rfl) rfl rfl (by decide) rfl rfl rfl (Nat.le_of_ble_eq_true rfl) rfl (gFit_rm (by decide) (by decide)) rfl ?_
            refine go_bipush (v := 40) (q := 26) (gDec iX10_kernPair_ok 12 rfl) (by decide) rfl ?_
            refine go_icmp_lt (t := 55) (q := 29) (gDec iX10_kernPair_ok 13 rfl) (by decide) rfl (fun c26 => False.elim (h3 c26)) (fun c26 => ?_)
            refine go_aload_n (q := 30) (gDec iX10_kernPair_ok 14 rfl) rfl rfl rfl ?_
            refine go_getr (r' := 1) (q := 33) fX10_10 (gDec iX10_kernPair_ok 15 rfl) rfl (by decide) rfl ?_
            refine go_getr (r' := 20) (q := 36) fX10_153 (gDec iX10_kernPair_ok 16 rfl) rfl (by decide) rfl ?_
            refine go_iload_n (q := 37) (gDec iX10_kernPair_ok 17 rfl) rfl rfl rfl ?_
            refine go_iload_n (q := 38) (gDec iX10_kernPair_ok 18 rfl) rfl rfl rfl ?_
            refine go_callV (n2 := 0) (q := 41) kX10_276 (ctX4_isPairTold (a := i) (b := j) (by omega) (by omega)) (gDec iX10_kernPair_ok 19 rfl) rfl rfl (by decide) rfl rfl rfl (Nat.le_of_ble_eq_true rfl) rfl (gFit_rm (by decide) (by decide)) rfl ?_
            refine go_if_ne (t := 55) (q := 44) (gDec iX10_kernPair_ok 20 rfl) (by decide) rfl (fun c41 => ?_) (fun c41 => False.elim (by rw [if_neg h4] at c41; exact absurd c41 (by decide)))
            refine go_aload_n (q := 56) (gDec iX10_kernPair_ok 26 rfl) rfl rfl rfl ?_
            refine go_getr (r' := 71) (q := 59) fX10_22 (gDec iX10_kernPair_ok 27 rfl) rfl (by decide) rfl ?_
            refine go_aload_n (q := 60) (gDec iX10_kernPair_ok 28 rfl) rfl rfl rfl ?_
            refine go_getr (r' := 1) (q := 63) fX10_10 (gDec iX10_kernPair_ok 29 rfl) rfl (by decide) rfl ?_
            refine go_callV (n2 := 0) (q := 66) kX10_89 (ctX3_rem hH) (gDec iX10_kernPair_ok 30 rfl) rfl rfl (by decide) rfl rfl rfl (Nat.le_of_ble_eq_true rfl) rfl (gFit_rm (by decide) (by decide)) rfl ?_
            refine go_aload_n (q := 67) (gDec iX10_kernPair_ok 31 rfl) rfl rfl rfl ?_
            refine go_getr (r' := 1) (q := 70) fX10_10 (gDec iX10_kernPair_ok 32 rfl) rfl (by decide) rfl ?_
            refine go_getr (r' := 20) (q := 73) fX10_153 (gDec iX10_kernPair_ok 33 rfl) rfl (by decide) rfl ?_
            refine go_iload_n (q := 74) (gDec iX10_kernPair_ok 34 rfl) rfl rfl rfl ?_
            refine go_iload_n (q := 75) (gDec iX10_kernPair_ok 35 rfl) rfl rfl rfl ?_
            refine go_iload_n (q := 76) (gDec iX10_kernPair_ok 36 rfl) rfl rfl rfl ?_
            refine go_callV (n2 := 0) (q := 79) kX10_281 (ctX4_tellPair (a := i) (b := j) (by omega) (by omega)) (gDec iX10_kernPair_ok 37 rfl) rfl rfl (by decide) rfl rfl rfl (Nat.le_of_ble_eq_true rfl) rfl (gFit_rm (by decide) (by decide)) rfl ?_
            refine go_aload_n (q := 80) (gDec iX10_kernPair_ok 38 rfl) rfl rfl rfl ?_
            refine go_getr (r' := 1) (q := 83) fX10_10 (gDec iX10_kernPair_ok 39 rfl) rfl (by decide) rfl ?_
            refine go_getr (r' := 20) (q := 86) fX10_153 (gDec iX10_kernPair_ok 40 rfl) rfl (by decide) rfl ?_
            refine go_callV (n2 := 0) (q := 89) kX10_273 ctX4_pairKernCount (gDec iX10_kernPair_ok 41 rfl) rfl rfl (by decide) rfl rfl rfl (Nat.le_of_ble_eq_true rfl) rfl (gFit_rm (by decide) (by decide)) rfl ?_
            exact go_ireturn (gDec iX10_kernPair_ok 42 rfl) rfl rfl rfl rfl (by decide)
      · rw [if_neg h2]
        refine go_aload_n (q := 1) (gDec iX10_kernPair_ok 0 rfl) rfl rfl rfl ?_
        refine go_iload_n (q := 2) (gDec iX10_kernPair_ok 1 rfl) rfl rfl rfl ?_
        refine go_callV (n2 := 0) (q := 5) kX10_96 (ctX10_rG hW hi) (gDec iX10_kernPair_ok 2 rfl) rfl rfl (by decide) rfl rfl rfl (Nat.le_of_ble_eq_true rfl) rfl (gFit_rm (by decide) (by decide)) rfl ?_
        refine go_aload_n (q := 6) (gDec iX10_kernPair_ok 3 rfl) rfl rfl rfl ?_
        refine go_iload_n (q := 7) (gDec iX10_kernPair_ok 4 rfl) rfl rfl rfl ?_
        refine go_callV (n2 := 0) (q := 10) kX10_96 (ctX10_rG hW hj) (gDec iX10_kernPair_ok 5 rfl) rfl rfl (by decide) rfl rfl rfl (Nat.le_of_ble_eq_true rfl) rfl (gFit_rm (by decide) (by decide)) rfl ?_
        refine go_iload_n (q := 11) (gDec iX10_kernPair_ok 6 rfl) rfl rfl rfl ?_
        exact go_callS_x kX10_263 (ctX10_requireKern_x h2) (gDec iX10_kernPair_ok 7 rfl) rfl rfl (Nat.le_of_ble_eq_true rfl) (gFit_rm (by decide) (by decide)) rfl
    · rw [show fKernPair σ g h v = (xIOB, σ) from if_neg (fun h9 => h1b h9.2)]
      obtain ⟨i, hi, rfl⟩ := gInG.ex h1
      refine go_aload_n (q := 1) (gDec iX10_kernPair_ok 0 rfl) rfl rfl rfl ?_
      refine go_iload_n (q := 2) (gDec iX10_kernPair_ok 1 rfl) rfl rfl rfl ?_
      refine go_callV (n2 := 0) (q := 5) kX10_96 (ctX10_rG hW hi) (gDec iX10_kernPair_ok 2 rfl) rfl rfl (by decide) rfl rfl rfl (Nat.le_of_ble_eq_true rfl) rfl (gFit_rm (by decide) (by decide)) rfl ?_
      refine go_aload_n (q := 6) (gDec iX10_kernPair_ok 3 rfl) rfl rfl rfl ?_
      refine go_iload_n (q := 7) (gDec iX10_kernPair_ok 4 rfl) rfl rfl rfl ?_
      exact go_callV_x kX10_96 (ctX10_requireGlyph_x hW h1b) (gDec iX10_kernPair_ok 5 rfl) rfl rfl (by decide) rfl rfl rfl (Nat.le_of_ble_eq_true rfl) (gFit_rm (by decide) (by decide)) rfl
  · rw [show fKernPair σ g h v = (xIOB, σ) from if_neg (fun h9 => h1 h9.1)]
    refine go_aload_n (q := 1) (gDec iX10_kernPair_ok 0 rfl) rfl rfl rfl ?_
    refine go_iload_n (q := 2) (gDec iX10_kernPair_ok 1 rfl) rfl rfl rfl ?_
    exact go_callV_x kX10_96 (ctX10_requireGlyph_x hW h1) (gDec iX10_kernPair_ok 2 rfl) rfl rfl (by decide) rfl rfl rfl (Nat.le_of_ble_eq_true rfl) (gFit_rm (by decide) (by decide)) rfl

def gDpC (σ : gST) (a b : Nat) : gST := gPut (gPut σ 26 (a * 6 + b) 301) 20 4 (σ.1 20 4 - 1)
def gDpP (σ : gST) (a b : Nat) : gST := gPut (gPut σ 28 (a * 24 + b) 301) 20 5 (σ.1 20 5 - 1)
def fDropKern (σ : gST) (w a b : Int32) : gO × gST := if w = 0 then
    if gInt2 5 a b ∧ ¬ σ.1 26 (nA a * 6 + nA b) = 301 then (rI ((gRem σ).1 26 (nA a * 6 + nA b)), gDpC (gRem σ) (nA a) (nA b)) else (xNSE, σ)
  else
    if gInt2 23 a b ∧ ¬ σ.1 28 (nA a * 24 + nA b) = 301 then (rI ((gRem σ).1 28 (nA a * 24 + nA b)), gDpP (gRem σ) (nA a) (nA b)) else (xNSE, σ)
def fWhy (σ : gST) (g h : Int32) : gO × gST := if gInG σ g ∧ gInG σ h then
    (rI ((if σ.1 28 (nA g * 24 + nA h) = 301 then 0 else 2) + (if gTC (σ.1 26) (gKx σ (nA g)) (gKy σ (nA h)) = 0 then 0 else 1)), σ)
  else (xIOB, σ)

set_option maxHeartbeats 4000000 in
set_option maxRecDepth 100000 in
theorem ctX10_dropKern {κ : gK} {σ : gST} {w a b : Int32} (hW : gDW σ) (hH : gHW σ) : gCt κ mX10_dropKern 9 [.ref (κ.2.1 + 0), .int w, .int a, .int b] σ (fDropKern σ w a b).1 (fDropKern σ w a b).2 1 := by
  refine ct_of (by decide +kernel) rfl (Nat.le_of_ble_eq_true rfl) rfl ?_
  by_cases h1 : w = 0
  · have hs : fDropKern σ w a b = _ := if_pos h1
    rw [hs]
    by_cases h2 : gInt2 5 a b
    · obtain ⟨i, j, hi, hj, rfl, rfl⟩ := gInt2.ex (n := 5) h2
      rw [nA_nI (n := i) (by omega), nA_nI (n := j) (by omega)]
      by_cases h3 : σ.1 26 (i * 6 + j) = 301
      · rw [if_neg (fun h9 => h9.2 h3)]
        refine go_iload_n (q := 1) (gDec iX10_dropKern_ok 0 rfl) rfl rfl rfl ?_
        refine go_if_eq (t := 19) (q := 4) (gDec iX10_dropKern_ok 1 rfl) (by decide) rfl (fun c1 => ?_) (fun c1 => False.elim (c1 h1))
        refine go_aload_n (q := 20) (gDec iX10_dropKern_ok 9 rfl) rfl rfl rfl ?_
        refine go_getr (r' := 1) (q := 23) fX10_10 (gDec iX10_dropKern_ok 10 rfl) rfl (by decide) rfl ?_
        refine go_getr (r' := 20) (q := 26) fX10_153 (gDec iX10_dropKern_ok 11 rfl) rfl (by decide) rfl ?_
        refine go_iload_n (q := 27) (gDec iX10_dropKern_ok 12 rfl) rfl rfl rfl ?_
        refine go_iload_n (q := 28) (gDec iX10_dropKern_ok 13 rfl) rfl rfl rfl ?_
        refine go_callV (n2 := 0) (q := 31) kX10_284 (ctX4_isClassKernTold (a := i) (b := j) (by omega) (by omega)) (gDec iX10_dropKern_ok 14 rfl) rfl rfl (by decide) rfl rfl rfl (Nat.le_of_ble_eq_true rfl) rfl (gFit_rm (by decide) (by decide)) rfl ?_
        refine go_istore (q := 33) (gDec iX10_dropKern_ok 15 rfl) (by decide) rfl ?_
        refine go_iload (q := 35) (gDec iX10_dropKern_ok 16 rfl) rfl rfl ?_
        refine go_if_ne (t := 49) (q := 38) (gDec iX10_dropKern_ok 17 rfl) (by decide) rfl (fun c35 => False.elim (by rw [if_pos h3] at c35; exact c35 rfl)) (fun c35 => ?_)
        exact go_throwW th_NoSuchElementException (List.mem_of_getElem? (i := 18) rfl) rfl rfl (gDec iX10_dropKern_ok 18 rfl) (gDec iX10_dropKern_ok 19 rfl) (gDec iX10_dropKern_ok 20 rfl) (gDec iX10_dropKern_ok 21 rfl) (gDec iX10_dropKern_ok 22 rfl) (by decide) (by decide)
      · rw [if_pos ⟨h2, h3⟩]
        refine go_iload_n (q := 1) (gDec iX10_dropKern_ok 0 rfl) rfl rfl rfl ?_
        refine go_if_eq (t := 19) (q := 4) (gDec iX10_dropKern_ok 1 rfl) (by decide) rfl (fun c1 => ?_) (fun c1 => False.elim (c1 h1))
        refine go_aload_n (q := 20) (gDec iX10_dropKern_ok 9 rfl) rfl rfl rfl ?_
        refine go_getr (r' := 1) (q := 23) fX10_10 (gDec iX10_dropKern_ok 10 rfl) rfl (by decide) rfl ?_
        refine go_getr (r' := 20) (q := 26) fX10_153 (gDec iX10_dropKern_ok 11 rfl) rfl (by decide) rfl ?_
        refine go_iload_n (q := 27) (gDec iX10_dropKern_ok 12 rfl) rfl rfl rfl ?_
        refine go_iload_n (q := 28) (gDec iX10_dropKern_ok 13 rfl) rfl rfl rfl ?_
        refine go_callV (n2 := 0) (q := 31) kX10_284 (ctX4_isClassKernTold (a := i) (b := j) (by omega) (by omega)) (gDec iX10_dropKern_ok 14 rfl) rfl rfl (by decide) rfl rfl rfl (Nat.le_of_ble_eq_true rfl) rfl (gFit_rm (by decide) (by decide)) rfl ?_
        refine go_istore (q := 33) (gDec iX10_dropKern_ok 15 rfl) (by decide) rfl ?_
        refine go_iload (q := 35) (gDec iX10_dropKern_ok 16 rfl) rfl rfl ?_
        refine go_if_ne (t := 49) (q := 38) (gDec iX10_dropKern_ok 17 rfl) (by decide) rfl (fun c35 => ?_) (fun c35 => False.elim (by rw [if_neg h3] at c35; exact absurd c35 (by decide)))
        refine go_aload_n (q := 50) (gDec iX10_dropKern_ok 23 rfl) rfl rfl rfl ?_
        refine go_getr (r' := 71) (q := 53) fX10_22 (gDec iX10_dropKern_ok 24 rfl) rfl (by decide) rfl ?_
        refine go_aload_n (q := 54) (gDec iX10_dropKern_ok 25 rfl) rfl rfl rfl ?_
        refine go_getr (r' := 1) (q := 57) fX10_10 (gDec iX10_dropKern_ok 26 rfl) rfl (by decide) rfl ?_
        refine go_callV (n2 := 0) (q := 60) kX10_89 (ctX3_rem hH) (gDec iX10_dropKern_ok 27 rfl) rfl rfl (by decide) rfl rfl rfl (Nat.le_of_ble_eq_true rfl) rfl (gFit_rm (by decide) (by decide)) rfl ?_
        refine go_iload_n (q := 61) (gDec iX10_dropKern_ok 28 rfl) rfl rfl rfl ?_
        refine go_if_eq (t := 79) (q := 64) (gDec iX10_dropKern_ok 29 rfl) (by decide) rfl (fun c61 => ?_) (fun c61 => False.elim (c61 h1))
        refine go_aload_n (q := 80) (gDec iX10_dropKern_ok 37 rfl) rfl rfl rfl ?_
        refine go_getr (r' := 1) (q := 83) fX10_10 (gDec iX10_dropKern_ok 38 rfl) rfl (by decide) rfl ?_
        refine go_getr (r' := 20) (q := 86) fX10_153 (gDec iX10_dropKern_ok 39 rfl) rfl (by decide) rfl ?_
        refine go_iload_n (q := 87) (gDec iX10_dropKern_ok 40 rfl) rfl rfl rfl ?_
        refine go_iload_n (q := 88) (gDec iX10_dropKern_ok 41 rfl) rfl rfl rfl ?_
        refine go_callV (n2 := 0) (q := 91) kX10_292 (ctX4_dropClasses (a := i) (b := j) (by omega) (by omega)) (gDec iX10_dropKern_ok 42 rfl) rfl rfl (by decide) rfl rfl rfl (Nat.le_of_ble_eq_true rfl) rfl (gFit_rm (by decide) (by decide)) rfl ?_
        exact go_ireturn (gDec iX10_dropKern_ok 43 rfl) rfl rfl rfl rfl (by decide)
    · rw [if_neg (fun h9 => h2 h9.1)]
      refine go_iload_n (q := 1) (gDec iX10_dropKern_ok 0 rfl) rfl rfl rfl ?_
      refine go_if_eq (t := 19) (q := 4) (gDec iX10_dropKern_ok 1 rfl) (by decide) rfl (fun c1 => ?_) (fun c1 => False.elim (c1 h1))
      refine go_aload_n (q := 20) (gDec iX10_dropKern_ok 9 rfl) rfl rfl rfl ?_
      refine go_getr (r' := 1) (q := 23) fX10_10 (gDec iX10_dropKern_ok 10 rfl) rfl (by decide) rfl ?_
      refine go_getr (r' := 20) (q := 26) fX10_153 (gDec iX10_dropKern_ok 11 rfl) rfl (by decide) rfl ?_
      refine go_iload_n (q := 27) (gDec iX10_dropKern_ok 12 rfl) rfl rfl rfl ?_
      refine go_iload_n (q := 28) (gDec iX10_dropKern_ok 13 rfl) rfl rfl rfl ?_
      refine go_callV (n2 := 0) (q := 31) kX10_284 (ctX4_isClassKernTold0 h2) (gDec iX10_dropKern_ok 14 rfl) rfl rfl (by decide) rfl rfl rfl (Nat.le_of_ble_eq_true rfl) rfl (gFit_rm (by decide) (by decide)) rfl ?_
      refine go_istore (q := 33) (gDec iX10_dropKern_ok 15 rfl) (by decide) rfl ?_
      refine go_iload (q := 35) (gDec iX10_dropKern_ok 16 rfl) rfl rfl ?_
      refine go_if_ne (t := 49) (q := 38) (gDec iX10_dropKern_ok 17 rfl) (by decide) rfl (fun c35 => False.elim (c35 rfl)) (fun c35 => ?_)
      exact go_throwW th_NoSuchElementException (List.mem_of_getElem? (i := 18) rfl) rfl rfl (gDec iX10_dropKern_ok 18 rfl) (gDec iX10_dropKern_ok 19 rfl) (gDec iX10_dropKern_ok 20 rfl) (gDec iX10_dropKern_ok 21 rfl) (gDec iX10_dropKern_ok 22 rfl) (by decide) (by decide)
  · have hs : fDropKern σ w a b = _ := if_neg h1
    rw [hs]
    by_cases h2 : gInt2 23 a b
    · obtain ⟨i, j, hi, hj, rfl, rfl⟩ := gInt2.ex (n := 23) h2
      rw [nA_nI (n := i) (by omega), nA_nI (n := j) (by omega)]
      by_cases h3 : σ.1 28 (i * 24 + j) = 301
      · rw [if_neg (fun h9 => h9.2 h3)]
        refine go_iload_n (q := 1) (gDec iX10_dropKern_ok 0 rfl) rfl rfl rfl ?_
        refine go_if_eq (t := 19) (q := 4) (gDec iX10_dropKern_ok 1 rfl) (by decide) rfl (fun c1 => False.elim (h1 c1)) (fun c1 => ?_)
        refine go_aload_n (q := 5) (gDec iX10_dropKern_ok 2 rfl) rfl rfl rfl ?_
        refine go_getr (r' := 1) (q := 8) fX10_10 (gDec iX10_dropKern_ok 3 rfl) rfl (by decide) rfl ?_
        refine go_getr (r' := 20) (q := 11) fX10_153 (gDec iX10_dropKern_ok 4 rfl) rfl (by decide) rfl ?_
        refine go_iload_n (q := 12) (gDec iX10_dropKern_ok 5 rfl) rfl rfl rfl ?_
        refine go_iload_n (q := 13) (gDec iX10_dropKern_ok 6 rfl) rfl rfl rfl ?_
        refine go_callV (n2 := 0) (q := 16) kX10_276 (ctX4_isPairTold (a := i) (b := j) (by omega) (by omega)) (gDec iX10_dropKern_ok 7 rfl) rfl rfl (by decide) rfl rfl rfl (Nat.le_of_ble_eq_true rfl) rfl (gFit_rm (by decide) (by decide)) rfl ?_
        refine go_goto (t := 31) (gDec iX10_dropKern_ok 8 rfl) (by decide) ?_
        refine go_istore (q := 33) (gDec iX10_dropKern_ok 15 rfl) (by decide) rfl ?_
        refine go_iload (q := 35) (gDec iX10_dropKern_ok 16 rfl) rfl rfl ?_
        refine go_if_ne (t := 49) (q := 38) (gDec iX10_dropKern_ok 17 rfl) (by decide) rfl (fun c35 => False.elim (by rw [if_pos h3] at c35; exact c35 rfl)) (fun c35 => ?_)
        exact go_throwW th_NoSuchElementException (List.mem_of_getElem? (i := 18) rfl) rfl rfl (gDec iX10_dropKern_ok 18 rfl) (gDec iX10_dropKern_ok 19 rfl) (gDec iX10_dropKern_ok 20 rfl) (gDec iX10_dropKern_ok 21 rfl) (gDec iX10_dropKern_ok 22 rfl) (by decide) (by decide)
      · rw [if_pos ⟨h2, h3⟩]
        refine go_iload_n (q := 1) (gDec iX10_dropKern_ok 0 rfl) rfl rfl rfl ?_
        refine go_if_eq (t := 19) (q := 4) (gDec iX10_dropKern_ok 1 rfl) (by decide) rfl (fun c1 => False.elim (h1 c1)) (fun c1 => ?_)
        refine go_aload_n (q := 5) (gDec iX10_dropKern_ok 2 rfl) rfl rfl rfl ?_
        refine go_getr (r' := 1) (q := 8) fX10_10 (gDec iX10_dropKern_ok 3 rfl) rfl (by decide) rfl ?_
        refine go_getr (r' := 20) (q := 11) fX10_153 (gDec iX10_dropKern_ok 4 rfl) rfl (by decide) rfl ?_
        refine go_iload_n (q := 12) (gDec iX10_dropKern_ok 5 rfl) rfl rfl rfl ?_
        refine go_iload_n (q := 13) (gDec iX10_dropKern_ok 6 rfl) rfl rfl rfl ?_
        refine go_callV (n2 := 0) (q := 16) kX10_276 (ctX4_isPairTold (a := i) (b := j) (by omega) (by omega)) (gDec iX10_dropKern_ok 7 rfl) rfl rfl (by decide) rfl rfl rfl (Nat.le_of_ble_eq_true rfl) rfl (gFit_rm (by decide) (by decide)) rfl ?_
        refine go_goto (t := 31) (gDec iX10_dropKern_ok 8 rfl) (by decide) ?_
        refine go_istore (q := 33) (gDec iX10_dropKern_ok 15 rfl) (by decide) rfl ?_
        refine go_iload (q := 35) (gDec iX10_dropKern_ok 16 rfl) rfl rfl ?_
        refine go_if_ne (t := 49) (q := 38) (gDec iX10_dropKern_ok 17 rfl) (by decide) rfl (fun c35 => ?_) (fun c35 => False.elim (by rw [if_neg h3] at c35; exact absurd c35 (by decide)))
        refine go_aload_n (q := 50) (gDec iX10_dropKern_ok 23 rfl) rfl rfl rfl ?_
        refine go_getr (r' := 71) (q := 53) fX10_22 (gDec iX10_dropKern_ok 24 rfl) rfl (by decide) rfl ?_
        refine go_aload_n (q := 54) (gDec iX10_dropKern_ok 25 rfl) rfl rfl rfl ?_
        refine go_getr (r' := 1) (q := 57) fX10_10 (gDec iX10_dropKern_ok 26 rfl) rfl (by decide) rfl ?_
        refine go_callV (n2 := 0) (q := 60) kX10_89 (ctX3_rem hH) (gDec iX10_dropKern_ok 27 rfl) rfl rfl (by decide) rfl rfl rfl (Nat.le_of_ble_eq_true rfl) rfl (gFit_rm (by decide) (by decide)) rfl ?_
        refine go_iload_n (q := 61) (gDec iX10_dropKern_ok 28 rfl) rfl rfl rfl ?_
        refine go_if_eq (t := 79) (q := 64) (gDec iX10_dropKern_ok 29 rfl) (by decide) rfl (fun c61 => False.elim (h1 c61)) (fun c61 => ?_)
        refine go_aload_n (q := 65) (gDec iX10_dropKern_ok 30 rfl) rfl rfl rfl ?_
        refine go_getr (r' := 1) (q := 68) fX10_10 (gDec iX10_dropKern_ok 31 rfl) rfl (by decide) rfl ?_
        refine go_getr (r' := 20) (q := 71) fX10_153 (gDec iX10_dropKern_ok 32 rfl) rfl (by decide) rfl ?_
        refine go_iload_n (q := 72) (gDec iX10_dropKern_ok 33 rfl) rfl rfl rfl ?_
        refine go_iload_n (q := 73) (gDec iX10_dropKern_ok 34 rfl) rfl rfl rfl ?_
        refine go_callV (n2 := 0) (q := 76) kX10_289 (ctX4_dropPair (a := i) (b := j) (by omega) (by omega)) (gDec iX10_dropKern_ok 35 rfl) rfl rfl (by decide) rfl rfl rfl (Nat.le_of_ble_eq_true rfl) rfl (gFit_rm (by decide) (by decide)) rfl ?_
        refine go_goto (t := 91) (gDec iX10_dropKern_ok 36 rfl) (by decide) ?_
        exact go_ireturn (gDec iX10_dropKern_ok 43 rfl) rfl rfl rfl rfl (by decide)
    · rw [if_neg (fun h9 => h2 h9.1)]
      refine go_iload_n (q := 1) (gDec iX10_dropKern_ok 0 rfl) rfl rfl rfl ?_
      refine go_if_eq (t := 19) (q := 4) (gDec iX10_dropKern_ok 1 rfl) (by decide) rfl (fun c1 => False.elim (h1 c1)) (fun c1 => ?_)
      refine go_aload_n (q := 5) (gDec iX10_dropKern_ok 2 rfl) rfl rfl rfl ?_
      refine go_getr (r' := 1) (q := 8) fX10_10 (gDec iX10_dropKern_ok 3 rfl) rfl (by decide) rfl ?_
      refine go_getr (r' := 20) (q := 11) fX10_153 (gDec iX10_dropKern_ok 4 rfl) rfl (by decide) rfl ?_
      refine go_iload_n (q := 12) (gDec iX10_dropKern_ok 5 rfl) rfl rfl rfl ?_
      refine go_iload_n (q := 13) (gDec iX10_dropKern_ok 6 rfl) rfl rfl rfl ?_
      refine go_callV (n2 := 0) (q := 16) kX10_276 (ctX4_isPairTold0 h2) (gDec iX10_dropKern_ok 7 rfl) rfl rfl (by decide) rfl rfl rfl (Nat.le_of_ble_eq_true rfl) rfl (gFit_rm (by decide) (by decide)) rfl ?_
      refine go_goto (t := 31) (gDec iX10_dropKern_ok 8 rfl) (by decide) ?_
      refine go_istore (q := 33) (gDec iX10_dropKern_ok 15 rfl) (by decide) rfl ?_
      refine go_iload (q := 35) (gDec iX10_dropKern_ok 16 rfl) rfl rfl ?_
      refine go_if_ne (t := 49) (q := 38) (gDec iX10_dropKern_ok 17 rfl) (by decide) rfl (fun c35 => False.elim (c35 rfl)) (fun c35 => ?_)
      exact go_throwW th_NoSuchElementException (List.mem_of_getElem? (i := 18) rfl) rfl rfl (gDec iX10_dropKern_ok 18 rfl) (gDec iX10_dropKern_ok 19 rfl) (gDec iX10_dropKern_ok 20 rfl) (gDec iX10_dropKern_ok 21 rfl) (gDec iX10_dropKern_ok 22 rfl) (by decide) (by decide)

set_option maxHeartbeats 4000000 in
set_option maxRecDepth 100000 in
theorem ctX10_why {κ : gK} {σ : gST} {g h : Int32} (hW : gDW σ) : gCt κ mX10_why 9 [.ref (κ.2.1 + 0), .int g, .int h] σ (fWhy σ g h).1 (fWhy σ g h).2 1 := by
  refine ct_of (by decide +kernel) rfl (Nat.le_of_ble_eq_true rfl) rfl ?_
  by_cases h1 : gInG σ g
  · by_cases h2 : gInG σ h
    · have hs : fWhy σ g h = _ := if_pos ⟨h1, h2⟩
      obtain ⟨i, hi, rfl⟩ := gInG.ex h1
      obtain ⟨j, hj, rfl⟩ := gInG.ex h2
      have h24 := hW.ng24
      rw [hs, nA_nI (n := i) (by omega), nA_nI (n := j) (by omega)]
      by_cases h3 : σ.1 28 (i * 24 + j) = 301
      · by_cases h4 : gTC (σ.1 26) (gKx σ i) (gKy σ j) = 0
        · skip
          refine go_aload_n (q := 1) (gDec iX10_why_ok 0 rfl) rfl rfl rfl ?_
          refine go_iload_n (q := 2) (gDec iX10_why_ok 1 rfl) rfl rfl rfl ?_
          refine go_callV (n2 := 0) (q := 5) kX10_96 (ctX10_rG hW hi) (gDec iX10_why_ok 2 rfl) rfl rfl (by decide) rfl rfl rfl (Nat.le_of_ble_eq_true rfl) rfl (gFit_rm (by decide) (by decide)) rfl ?_
          refine go_aload_n (q := 6) (gDec iX10_why_ok 3 rfl) rfl rfl rfl ?_
          refine go_iload_n (q := 7) (gDec iX10_why_ok 4 rfl) rfl rfl rfl ?_
          refine go_callV (n2 := 0) (q := 10) kX10_96 (ctX10_rG hW hj) (gDec iX10_why_ok 5 rfl) rfl rfl (by decide) rfl rfl rfl (Nat.le_of_ble_eq_true rfl) rfl (gFit_rm (by decide) (by decide)) rfl ?_
          refine go_aload_n (q := 11) (gDec iX10_why_ok 6 rfl) rfl rfl rfl ?_
          refine go_getr (r' := 1) (q := 14) fX10_10 (gDec iX10_why_ok 7 rfl) rfl (by decide) rfl ?_
          refine go_getr (r' := 20) (q := 17) fX10_153 (gDec iX10_why_ok 8 rfl) rfl (by decide) rfl ?_
          refine go_iload_n (q := 18) (gDec iX10_why_ok 9 rfl) rfl rfl rfl ?_
          refine go_iload_n (q := 19) (gDec iX10_why_ok 10 rfl) rfl rfl rfl ?_
          refine go_callV (n2 := 0) (q := 22) kX10_276 (ctX4_isPairTold (a := i) (b := j) (by omega) (by omega)) (gDec iX10_why_ok 11 rfl) rfl rfl (by decide) rfl rfl rfl (Nat.le_of_ble_eq_true rfl) rfl (gFit_rm (by decide) (by decide)) rfl ?_
          refine go_if_eq (t := 29) (q := 25) (gDec iX10_why_ok 12 rfl) (by decide) rfl (fun c22 => ?_) (fun c22 => False.elim (c22 (if_pos h3)))
          refine go_iconst (v := 0) (q := 30) (gDec iX10_why_ok 15 rfl) (by decide) rfl ?_
          refine go_istore_n (q := 31) (gDec iX10_why_ok 16 rfl) rfl (by decide) rfl ?_
          refine go_aload_n (q := 32) (gDec iX10_why_ok 17 rfl) rfl rfl rfl ?_
          refine go_getr (r' := 1) (q := 35) fX10_10 (gDec iX10_why_ok 18 rfl) rfl (by decide) rfl ?_
          refine go_getr (r' := 20) (q := 38) fX10_153 (gDec iX10_why_ok 19 rfl) rfl (by decide) rfl ?_
          refine go_iload_n (q := 39) (gDec iX10_why_ok 20 rfl) rfl rfl rfl ?_
          refine go_iload_n (q := 40) (gDec iX10_why_ok 21 rfl) rfl rfl rfl ?_
          refine go_callV (n2 := 0) (q := 43) kX10_298 (ctX4_isToldForClassesOf (g := i) (h := j) (x := gKx σ i) (y := gKy σ j) (by omega) (by omega) (hW.kx (by omega)) (hW.ky (by omega)) (hW.kx6 (by omega)) (hW.ky6 (by omega))) (gDec iX10_why_ok 22 rfl) rfl rfl (by decide) rfl rfl rfl (Nat.le_of_ble_eq_true rfl) rfl (gFit_rm (by decide) (by decide)) rfl ?_
          refine go_if_eq (t := 50) (q := 46) (gDec iX10_why_ok 23 rfl) (by decide) rfl (fun c43 => ?_) (fun c43 => False.elim (c43 h4))
          refine go_iconst (v := 0) (q := 51) (gDec iX10_why_ok 26 rfl) (by decide) rfl ?_
          refine go_istore (q := 53) (gDec iX10_why_ok 27 rfl) (by decide) rfl ?_
          refine go_iload_n (q := 54) (gDec iX10_why_ok 28 rfl) rfl rfl rfl ?_
          refine go_iload (q := 56) (gDec iX10_why_ok 29 rfl) rfl rfl ?_
          refine go_iadd (q := 57) (gDec iX10_why_ok 30 rfl) rfl ?_
          exact go_ireturn (gDec iX10_why_ok 31 rfl) rfl rfl (by rw [if_pos h3, if_pos h4]) rfl (by decide)
        · skip
          refine go_aload_n (q := 1) (gDec iX10_why_ok 0 rfl) rfl rfl rfl ?_
          refine go_iload_n (q := 2) (gDec iX10_why_ok 1 rfl) rfl rfl rfl ?_
          refine go_callV (n2 := 0) (q := 5) kX10_96 (ctX10_rG hW hi) (gDec iX10_why_ok 2 rfl) rfl rfl (by decide) rfl rfl rfl (Nat.le_of_ble_eq_true rfl) rfl (gFit_rm (by decide) (by decide)) rfl ?_
          refine go_aload_n (q := 6) (gDec iX10_why_ok 3 rfl) rfl rfl rfl ?_
          refine go_iload_n (q := 7) (gDec iX10_why_ok 4 rfl) rfl rfl rfl ?_
          refine go_callV (n2 := 0) (q := 10) kX10_96 (ctX10_rG hW hj) (gDec iX10_why_ok 5 rfl) rfl rfl (by decide) rfl rfl rfl (Nat.le_of_ble_eq_true rfl) rfl (gFit_rm (by decide) (by decide)) rfl ?_
          refine go_aload_n (q := 11) (gDec iX10_why_ok 6 rfl) rfl rfl rfl ?_
          refine go_getr (r' := 1) (q := 14) fX10_10 (gDec iX10_why_ok 7 rfl) rfl (by decide) rfl ?_
          refine go_getr (r' := 20) (q := 17) fX10_153 (gDec iX10_why_ok 8 rfl) rfl (by decide) rfl ?_
          refine go_iload_n (q := 18) (gDec iX10_why_ok 9 rfl) rfl rfl rfl ?_
          refine go_iload_n (q := 19) (gDec iX10_why_ok 10 rfl) rfl rfl rfl ?_
          refine go_callV (n2 := 0) (q := 22) kX10_276 (ctX4_isPairTold (a := i) (b := j) (by omega) (by omega)) (gDec iX10_why_ok 11 rfl) rfl rfl (by decide) rfl rfl rfl (Nat.le_of_ble_eq_true rfl) rfl (gFit_rm (by decide) (by decide)) rfl ?_
          refine go_if_eq (t := 29) (q := 25) (gDec iX10_why_ok 12 rfl) (by decide) rfl (fun c22 => ?_) (fun c22 => False.elim (c22 (if_pos h3)))
          refine go_iconst (v := 0) (q := 30) (gDec iX10_why_ok 15 rfl) (by decide) rfl ?_
          refine go_istore_n (q := 31) (gDec iX10_why_ok 16 rfl) rfl (by decide) rfl ?_
          refine go_aload_n (q := 32) (gDec iX10_why_ok 17 rfl) rfl rfl rfl ?_
          refine go_getr (r' := 1) (q := 35) fX10_10 (gDec iX10_why_ok 18 rfl) rfl (by decide) rfl ?_
          refine go_getr (r' := 20) (q := 38) fX10_153 (gDec iX10_why_ok 19 rfl) rfl (by decide) rfl ?_
          refine go_iload_n (q := 39) (gDec iX10_why_ok 20 rfl) rfl rfl rfl ?_
          refine go_iload_n (q := 40) (gDec iX10_why_ok 21 rfl) rfl rfl rfl ?_
          refine go_callV (n2 := 0) (q := 43) kX10_298 (ctX4_isToldForClassesOf (g := i) (h := j) (x := gKx σ i) (y := gKy σ j) (by omega) (by omega) (hW.kx (by omega)) (hW.ky (by omega)) (hW.kx6 (by omega)) (hW.ky6 (by omega))) (gDec iX10_why_ok 22 rfl) rfl rfl (by decide) rfl rfl rfl (Nat.le_of_ble_eq_true rfl) rfl (gFit_rm (by decide) (by decide)) rfl ?_
          refine go_if_eq (t := 50) (q := 46) (gDec iX10_why_ok 23 rfl) (by decide) rfl (fun c43 => False.elim (h4 c43)) (fun c43 => ?_)
          refine go_iconst (v := 1) (q := 47) (gDec iX10_why_ok 24 rfl) (by decide) rfl ?_
          refine go_goto (t := 51) (gDec iX10_why_ok 25 rfl) (by decide) ?_
          refine go_istore (q := 53) (gDec iX10_why_ok 27 rfl) (by decide) rfl ?_
          refine go_iload_n (q := 54) (gDec iX10_why_ok 28 rfl) rfl rfl rfl ?_
          refine go_iload (q := 56) (gDec iX10_why_ok 29 rfl) rfl rfl ?_
          refine go_iadd (q := 57) (gDec iX10_why_ok 30 rfl) rfl ?_
          exact go_ireturn (gDec iX10_why_ok 31 rfl) rfl rfl (by rw [if_pos h3, if_neg h4]) rfl (by decide)
      · by_cases h4 : gTC (σ.1 26) (gKx σ i) (gKy σ j) = 0
        · skip
          refine go_aload_n (q := 1) (gDec iX10_why_ok 0 rfl) rfl rfl rfl ?_
          refine go_iload_n (q := 2) (gDec iX10_why_ok 1 rfl) rfl rfl rfl ?_
          refine go_callV (n2 := 0) (q := 5) kX10_96 (ctX10_rG hW hi) (gDec iX10_why_ok 2 rfl) rfl rfl (by decide) rfl rfl rfl (Nat.le_of_ble_eq_true rfl) rfl (gFit_rm (by decide) (by decide)) rfl ?_
          refine go_aload_n (q := 6) (gDec iX10_why_ok 3 rfl) rfl rfl rfl ?_
          refine go_iload_n (q := 7) (gDec iX10_why_ok 4 rfl) rfl rfl rfl ?_
          refine go_callV (n2 := 0) (q := 10) kX10_96 (ctX10_rG hW hj) (gDec iX10_why_ok 5 rfl) rfl rfl (by decide) rfl rfl rfl (Nat.le_of_ble_eq_true rfl) rfl (gFit_rm (by decide) (by decide)) rfl ?_
          refine go_aload_n (q := 11) (gDec iX10_why_ok 6 rfl) rfl rfl rfl ?_
          refine go_getr (r' := 1) (q := 14) fX10_10 (gDec iX10_why_ok 7 rfl) rfl (by decide) rfl ?_
          refine go_getr (r' := 20) (q := 17) fX10_153 (gDec iX10_why_ok 8 rfl) rfl (by decide) rfl ?_
          refine go_iload_n (q := 18) (gDec iX10_why_ok 9 rfl) rfl rfl rfl ?_
          refine go_iload_n (q := 19) (gDec iX10_why_ok 10 rfl) rfl rfl rfl ?_
          refine go_callV (n2 := 0) (q := 22) kX10_276 (ctX4_isPairTold (a := i) (b := j) (by omega) (by omega)) (gDec iX10_why_ok 11 rfl) rfl rfl (by decide) rfl rfl rfl (Nat.le_of_ble_eq_true rfl) rfl (gFit_rm (by decide) (by decide)) rfl ?_
          refine go_if_eq (t := 29) (q := 25) (gDec iX10_why_ok 12 rfl) (by decide) rfl (fun c22 => False.elim (by rw [if_neg h3] at c22; exact absurd c22 (by decide))) (fun c22 => ?_)
          refine go_iconst (v := 2) (q := 26) (gDec iX10_why_ok 13 rfl) (by decide) rfl ?_
          refine go_goto (t := 30) (gDec iX10_why_ok 14 rfl) (by decide) ?_
          refine go_istore_n (q := 31) (gDec iX10_why_ok 16 rfl) rfl (by decide) rfl ?_
          refine go_aload_n (q := 32) (gDec iX10_why_ok 17 rfl) rfl rfl rfl ?_
          refine go_getr (r' := 1) (q := 35) fX10_10 (gDec iX10_why_ok 18 rfl) rfl (by decide) rfl ?_
          refine go_getr (r' := 20) (q := 38) fX10_153 (gDec iX10_why_ok 19 rfl) rfl (by decide) rfl ?_
          refine go_iload_n (q := 39) (gDec iX10_why_ok 20 rfl) rfl rfl rfl ?_
          refine go_iload_n (q := 40) (gDec iX10_why_ok 21 rfl) rfl rfl rfl ?_
          refine go_callV (n2 := 0) (q := 43) kX10_298 (ctX4_isToldForClassesOf (g := i) (h := j) (x := gKx σ i) (y := gKy σ j) (by omega) (by omega) (hW.kx (by omega)) (hW.ky (by omega)) (hW.kx6 (by omega)) (hW.ky6 (by omega))) (gDec iX10_why_ok 22 rfl) rfl rfl (by decide) rfl rfl rfl (Nat.le_of_ble_eq_true rfl) rfl (gFit_rm (by decide) (by decide)) rfl ?_
          refine go_if_eq (t := 50) (q := 46) (gDec iX10_why_ok 23 rfl) (by decide) rfl (fun c43 => ?_) (fun c43 => False.elim (c43 h4))
          refine go_iconst (v := 0) (q := 51) (gDec iX10_why_ok 26 rfl) (by decide) rfl ?_
          refine go_istore (q := 53) (gDec iX10_why_ok 27 rfl) (by decide) rfl ?_
          refine go_iload_n (q := 54) (gDec iX10_why_ok 28 rfl) rfl rfl rfl ?_
          refine go_iload (q := 56) (gDec iX10_why_ok 29 rfl) rfl rfl ?_
          refine go_iadd (q := 57) (gDec iX10_why_ok 30 rfl) rfl ?_
          exact go_ireturn (gDec iX10_why_ok 31 rfl) rfl rfl (by rw [if_neg h3, if_pos h4]) rfl (by decide)
        · skip
          refine go_aload_n (q := 1) (gDec iX10_why_ok 0 rfl) rfl rfl rfl ?_
          refine go_iload_n (q := 2) (gDec iX10_why_ok 1 rfl) rfl rfl rfl ?_
          refine go_callV (n2 := 0) (q := 5) kX10_96 (ctX10_rG hW hi) (gDec iX10_why_ok 2 rfl) rfl rfl (by decide) rfl rfl rfl (Nat.le_of_ble_eq_true rfl) rfl (gFit_rm (by decide) (by decide)) rfl ?_
          refine go_aload_n (q := 6) (gDec iX10_why_ok 3 rfl) rfl rfl rfl ?_
          refine go_iload_n (q := 7) (gDec iX10_why_ok 4 rfl) rfl rfl rfl ?_
          refine go_callV (n2 := 0) (q := 10) kX10_96 (ctX10_rG hW hj) (gDec iX10_why_ok 5 rfl) rfl rfl (by decide) rfl rfl rfl (Nat.le_of_ble_eq_true rfl) rfl (gFit_rm (by decide) (by decide)) rfl ?_
          refine go_aload_n (q := 11) (gDec iX10_why_ok 6 rfl) rfl rfl rfl ?_
          refine go_getr (r' := 1) (q := 14) fX10_10 (gDec iX10_why_ok 7 rfl) rfl (by decide) rfl ?_
          refine go_getr (r' := 20) (q := 17) fX10_153 (gDec iX10_why_ok 8 rfl) rfl (by decide) rfl ?_
          refine go_iload_n (q := 18) (gDec iX10_why_ok 9 rfl) rfl rfl rfl ?_
          refine go_iload_n (q := 19) (gDec iX10_why_ok 10 rfl) rfl rfl rfl ?_
          refine go_callV (n2 := 0) (q := 22) kX10_276 (ctX4_isPairTold (a := i) (b := j) (by omega) (by omega)) (gDec iX10_why_ok 11 rfl) rfl rfl (by decide) rfl rfl rfl (Nat.le_of_ble_eq_true rfl) rfl (gFit_rm (by decide) (by decide)) rfl ?_
          refine go_if_eq (t := 29) (q := 25) (gDec iX10_why_ok 12 rfl) (by decide) rfl (fun c22 => False.elim (by rw [if_neg h3] at c22; exact absurd c22 (by decide))) (fun c22 => ?_)
          refine go_iconst (v := 2) (q := 26) (gDec iX10_why_ok 13 rfl) (by decide) rfl ?_
          refine go_goto (t := 30) (gDec iX10_why_ok 14 rfl) (by decide) ?_
          refine go_istore_n (q := 31) (gDec iX10_why_ok 16 rfl) rfl (by decide) rfl ?_
          refine go_aload_n (q := 32) (gDec iX10_why_ok 17 rfl) rfl rfl rfl ?_
          refine go_getr (r' := 1) (q := 35) fX10_10 (gDec iX10_why_ok 18 rfl) rfl (by decide) rfl ?_
          refine go_getr (r' := 20) (q := 38) fX10_153 (gDec iX10_why_ok 19 rfl) rfl (by decide) rfl ?_
          refine go_iload_n (q := 39) (gDec iX10_why_ok 20 rfl) rfl rfl rfl ?_
          refine go_iload_n (q := 40) (gDec iX10_why_ok 21 rfl) rfl rfl rfl ?_
          refine go_callV (n2 := 0) (q := 43) kX10_298 (ctX4_isToldForClassesOf (g := i) (h := j) (x := gKx σ i) (y := gKy σ j) (by omega) (by omega) (hW.kx (by omega)) (hW.ky (by omega)) (hW.kx6 (by omega)) (hW.ky6 (by omega))) (gDec iX10_why_ok 22 rfl) rfl rfl (by decide) rfl rfl rfl (Nat.le_of_ble_eq_true rfl) rfl (gFit_rm (by decide) (by decide)) rfl ?_
          refine go_if_eq (t := 50) (q := 46) (gDec iX10_why_ok 23 rfl) (by decide) rfl (fun c43 => False.elim (h4 c43)) (fun c43 => ?_)
          refine go_iconst (v := 1) (q := 47) (gDec iX10_why_ok 24 rfl) (by decide) rfl ?_
          refine go_goto (t := 51) (gDec iX10_why_ok 25 rfl) (by decide) ?_
          refine go_istore (q := 53) (gDec iX10_why_ok 27 rfl) (by decide) rfl ?_
          refine go_iload_n (q := 54) (gDec iX10_why_ok 28 rfl) rfl rfl rfl ?_
          refine go_iload (q := 56) (gDec iX10_why_ok 29 rfl) rfl rfl ?_
          refine go_iadd (q := 57) (gDec iX10_why_ok 30 rfl) rfl ?_
          exact go_ireturn (gDec iX10_why_ok 31 rfl) rfl rfl (by rw [if_neg h3, if_neg h4]) rfl (by decide)
    · rw [show fWhy σ g h = (xIOB, σ) from if_neg (fun h9 => h2 h9.2)]
      obtain ⟨i, hi, rfl⟩ := gInG.ex h1
      refine go_aload_n (q := 1) (gDec iX10_why_ok 0 rfl) rfl rfl rfl ?_
      refine go_iload_n (q := 2) (gDec iX10_why_ok 1 rfl) rfl rfl rfl ?_
      refine go_callV (n2 := 0) (q := 5) kX10_96 (ctX10_rG hW hi) (gDec iX10_why_ok 2 rfl) rfl rfl (by decide) rfl rfl rfl (Nat.le_of_ble_eq_true rfl) rfl (gFit_rm (by decide) (by decide)) rfl ?_
      refine go_aload_n (q := 6) (gDec iX10_why_ok 3 rfl) rfl rfl rfl ?_
      refine go_iload_n (q := 7) (gDec iX10_why_ok 4 rfl) rfl rfl rfl ?_
      exact go_callV_x kX10_96 (ctX10_requireGlyph_x hW h2) (gDec iX10_why_ok 5 rfl) rfl rfl (by decide) rfl rfl rfl (Nat.le_of_ble_eq_true rfl) (gFit_rm (by decide) (by decide)) rfl
  · rw [show fWhy σ g h = (xIOB, σ) from if_neg (fun h9 => h1 h9.1)]
    refine go_aload_n (q := 1) (gDec iX10_why_ok 0 rfl) rfl rfl rfl ?_
    refine go_iload_n (q := 2) (gDec iX10_why_ok 1 rfl) rfl rfl rfl ?_
    exact go_callV_x kX10_96 (ctX10_requireGlyph_x hW h1) (gDec iX10_why_ok 2 rfl) rfl rfl (by decide) rfl rfl rfl (Nat.le_of_ble_eq_true rfl) (gFit_rm (by decide) (by decide)) rfl
