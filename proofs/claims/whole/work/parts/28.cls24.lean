def gInsW (σ : gST) (g N : Nat) (f t : Int32) : gST := gPut (gPut (gPut (gS2f σ (g * 4) (gIp (σ.1 33) (g * 4) f N) N) 33 (g * 4 + gIp (σ.1 33) (g * 4) f N) f) 35 (g * 4 + gIp (σ.1 33) (g * 4) f N) t) 31 g (nI (N + 1))
def fAddStem (σ : gST) (g f t : Int32) : gO × gST := if gInG σ g then
    if gCo f.toInt t.toInt ∧ f < t then
      if 4 ≤ gNs σ (nA g) ∨ ¬ gTk (σ.1 33) (σ.1 35) f t (nA g * 4) 0 (gNs σ (nA g)) = 0 then (xISE, σ)
      else (rI (nI (gIp ((gRem σ).1 33) (nA g * 4) f (gNs σ (nA g)))), gInsW (gRem σ) (nA g) (gNs σ (nA g)) f t)
    else (xIAE, σ)
  else (xIOB, σ)
def fRemoveStem (σ : gST) (g s : Int32) : gO × gST := if gInT σ g s then
    (rI (σ.1 35 (nA g * 4 + nA s) - σ.1 33 (nA g * 4 + nA s)), gPut (gS2d (gRem σ) (nA g * 4) (nA s) (gNs σ (nA g))) 31 (nA g) (nI (gNs σ (nA g) - 1)))
  else (xIOB, σ)
def fStem (σ : gST) (g s y : Int32) : gO × gST := if gInT σ g s then (rI (if y = 0 then σ.1 33 (nA g * 4 + nA s) else σ.1 35 (nA g * 4 + nA s)), σ) else (xIOB, σ)
def fPlace (σ : gST) (g z v : Int32) : gO × gST := if gInG σ g then
    if (6 ≤ z.toInt ∧ z.toInt ≤ 60) ∧ (-1000 ≤ v.toInt ∧ v.toInt ≤ 2000) then (rI (gPl (σ.1 33) (σ.1 35) v z (nA g * 4) 0 (gNs σ (nA g)) 0 0), σ) else (xIAE, σ)
  else (xIOB, σ)

set_option maxHeartbeats 4000000 in
set_option maxRecDepth 100000 in
theorem ctX10_addStem {κ : gK} {σ : gST} {g f t : Int32} (hW : gDW σ) (hH : gHW σ) : gCt κ mX10_addStem 9 [.ref (κ.2.1 + 0), .int g, .int f, .int t] σ (fAddStem σ g f t).1 (fAddStem σ g f t).2 1 := by
  refine ct_of (by decide +kernel) rfl (Nat.le_of_ble_eq_true rfl) rfl ?_
  by_cases h1 : gInG σ g
  · have hs : fAddStem σ g f t = _ := if_pos h1
    rw [hs]
    obtain ⟨i, hi, rfl⟩ := gInG.ex h1
    have h24 := hW.ng24
    have h4 := hW.ns4 (g := i) (by omega)
    rw [nA_nI (n := i) (by omega)]
    by_cases h2 : gCo f.toInt t.toInt ∧ f < t
    · rw [if_pos h2]
      by_cases h5 : 4 ≤ gNs σ i
      · rw [if_pos (Or.inl h5)]
        refine go_aload_n (q := 1) (gDec iX10_addStem_ok 0 rfl) rfl rfl rfl ?_
        refine go_iload_n (q := 2) (gDec iX10_addStem_ok 1 rfl) rfl rfl rfl ?_
        refine go_callV (n2 := 0) (q := 5) kX10_96 (ctX10_rG hW hi) (gDec iX10_addStem_ok 2 rfl) rfl rfl (by decide) rfl rfl rfl (Nat.le_of_ble_eq_true rfl) rfl (gFit_rm (by decide) (by decide)) rfl ?_
        refine go_iload_n (q := 6) (gDec iX10_addStem_ok 3 rfl) rfl rfl rfl ?_
        refine go_i2l (q := 7) (gDec iX10_addStem_ok 4 rfl) rfl ?_
        refine go_iload_n (q := 8) (gDec iX10_addStem_ok 5 rfl) rfl rfl rfl ?_
        refine go_i2l (q := 9) (gDec iX10_addStem_ok 6 rfl) rfl ?_
        refine go_callS (n2 := 0) (q := 12) kX10_102 (ctX10_requireCoordinates (x := f.toInt64) (y := t.toInt64) (by rw [i2l_toInt, i2l_toInt]; exact h2.1)) (gDec iX10_addStem_ok 7 rfl) rfl rfl (Nat.le_of_ble_eq_true rfl) rfl (gFit_rm (by decide) (by decide)) rfl ?_
        refine go_iload_n (q := 13) (gDec iX10_addStem_ok 8 rfl) rfl rfl rfl ?_
        refine go_iload_n (q := 14) (gDec iX10_addStem_ok 9 rfl) rfl rfl rfl ?_
        refine go_icmp_lt (t := 28) (q := 17) (gDec iX10_addStem_ok 10 rfl) (by decide) rfl (fun c14 => ?_) (fun c14 => False.elim (c14 h2.2))
        refine go_aload_n (q := 29) (gDec iX10_addStem_ok 16 rfl) rfl rfl rfl ?_
        refine go_getr (r' := 1) (q := 32) fX10_10 (gDec iX10_addStem_ok 17 rfl) rfl (by decide) rfl ?_
        refine go_getr (r' := 29) (q := 35) fX10_162 (gDec iX10_addStem_ok 18 rfl) rfl (by decide) rfl ?_
        refine go_iload_n (q := 36) (gDec iX10_addStem_ok 19 rfl) rfl rfl rfl ?_
        refine go_callV (n2 := 0) (q := 39) kX10_166 (ctX8_countOf (g := i) (by omega)) (gDec iX10_addStem_ok 20 rfl) rfl rfl (by decide) rfl rfl rfl (Nat.le_of_ble_eq_true rfl) rfl (gFit_rm (by decide) (by decide)) rfl ?_
        refine go_top (v' := nI (gNs σ i)) (hW.ns (by omega)) ?_
        refine go_iconst (v := 4) (q := 40) (gDec iX10_addStem_ok 21 rfl) (by decide) rfl ?_
        refine go_icmp_ge (t := 59) (q := 43) (gDec iX10_addStem_ok 22 rfl) (by decide) rfl (fun c40 => ?_) (fun c40 => False.elim (c40 (nI_le (a := 4) (b := gNs σ i) (by omega) (by omega))))
        exact go_throwW th_IllegalStateException (List.mem_of_getElem? (i := 20) rfl) rfl rfl (gDec iX10_addStem_ok 31 rfl) (gDec iX10_addStem_ok 32 rfl) (gDec iX10_addStem_ok 33 rfl) (gDec iX10_addStem_ok 34 rfl) (gDec iX10_addStem_ok 35 rfl) (by decide) (by decide)
      · by_cases h6 : gTk (σ.1 33) (σ.1 35) f t (i * 4) 0 (gNs σ i) = 0
        · rw [if_neg (fun h9 => h9.elim h5 (fun h8 => h8 h6))]
          refine go_aload_n (q := 1) (gDec iX10_addStem_ok 0 rfl) rfl rfl rfl ?_
          refine go_iload_n (q := 2) (gDec iX10_addStem_ok 1 rfl) rfl rfl rfl ?_
          refine go_callV (n2 := 0) (q := 5) kX10_96 (ctX10_rG hW hi) (gDec iX10_addStem_ok 2 rfl) rfl rfl (by decide) rfl rfl rfl (Nat.le_of_ble_eq_true rfl) rfl (gFit_rm (by decide) (by decide)) rfl ?_
          refine go_iload_n (q := 6) (gDec iX10_addStem_ok 3 rfl) rfl rfl rfl ?_
          refine go_i2l (q := 7) (gDec iX10_addStem_ok 4 rfl) rfl ?_
          refine go_iload_n (q := 8) (gDec iX10_addStem_ok 5 rfl) rfl rfl rfl ?_
          refine go_i2l (q := 9) (gDec iX10_addStem_ok 6 rfl) rfl ?_
          refine go_callS (n2 := 0) (q := 12) kX10_102 (ctX10_requireCoordinates (x := f.toInt64) (y := t.toInt64) (by rw [i2l_toInt, i2l_toInt]; exact h2.1)) (gDec iX10_addStem_ok 7 rfl) rfl rfl (Nat.le_of_ble_eq_true rfl) rfl (gFit_rm (by decide) (by decide)) rfl ?_
          refine go_iload_n (q := 13) (gDec iX10_addStem_ok 8 rfl) rfl rfl rfl ?_
          refine go_iload_n (q := 14) (gDec iX10_addStem_ok 9 rfl) rfl rfl rfl ?_
          refine go_icmp_lt (t := 28) (q := 17) (gDec iX10_addStem_ok 10 rfl) (by decide) rfl (fun c14 => ?_) (fun c14 => False.elim (c14 h2.2))
          refine go_aload_n (q := 29) (gDec iX10_addStem_ok 16 rfl) rfl rfl rfl ?_
          refine go_getr (r' := 1) (q := 32) fX10_10 (gDec iX10_addStem_ok 17 rfl) rfl (by decide) rfl ?_
          refine go_getr (r' := 29) (q := 35) fX10_162 (gDec iX10_addStem_ok 18 rfl) rfl (by decide) rfl ?_
          refine go_iload_n (q := 36) (gDec iX10_addStem_ok 19 rfl) rfl rfl rfl ?_
          refine go_callV (n2 := 0) (q := 39) kX10_166 (ctX8_countOf (g := i) (by omega)) (gDec iX10_addStem_ok 20 rfl) rfl rfl (by decide) rfl rfl rfl (Nat.le_of_ble_eq_true rfl) rfl (gFit_rm (by decide) (by decide)) rfl ?_
          refine go_top (v' := nI (gNs σ i)) (hW.ns (by omega)) ?_
          refine go_iconst (v := 4) (q := 40) (gDec iX10_addStem_ok 21 rfl) (by decide) rfl ?_
          refine go_icmp_ge (t := 59) (q := 43) (gDec iX10_addStem_ok 22 rfl) (by decide) rfl (fun c40 => False.elim (nI_ge (a := gNs σ i) (b := 4) (by omega) (by decide) c40)) (fun c40 => ?_)
          refine go_aload_n (q := 44) (gDec iX10_addStem_ok 23 rfl) rfl rfl rfl ?_
          refine go_getr (r' := 1) (q := 47) fX10_10 (gDec iX10_addStem_ok 24 rfl) rfl (by decide) rfl ?_
          refine go_getr (r' := 29) (q := 50) fX10_162 (gDec iX10_addStem_ok 25 rfl) rfl (by decide) rfl ?_
          refine go_iload_n (q := 51) (gDec iX10_addStem_ok 26 rfl) rfl rfl rfl ?_
          refine go_iload_n (q := 52) (gDec iX10_addStem_ok 27 rfl) rfl rfl rfl ?_
          refine go_iload_n (q := 53) (gDec iX10_addStem_ok 28 rfl) rfl rfl rfl ?_
          refine go_callV (n2 := 0) (q := 56) kX10_303 (ctX8_isTaken (g := i) (N := gNs σ i) (by omega) h4 (hW.ns (by omega))) (gDec iX10_addStem_ok 29 rfl) rfl rfl (by decide) rfl rfl rfl (Nat.le_of_ble_eq_true rfl) rfl (gFit_rm (by decide) (by decide)) rfl ?_
          refine go_if_eq (t := 70) (q := 59) (gDec iX10_addStem_ok 30 rfl) (by decide) rfl (fun c56 => ?_) (fun c56 => False.elim (c56 h6))
          refine go_aload_n (q := 71) (gDec iX10_addStem_ok 36 rfl) rfl rfl rfl ?_
          refine go_getr (r' := 71) (q := 74) fX10_22 (gDec iX10_addStem_ok 37 rfl) rfl (by decide) rfl ?_
          refine go_aload_n (q := 75) (gDec iX10_addStem_ok 38 rfl) rfl rfl rfl ?_
          refine go_getr (r' := 1) (q := 78) fX10_10 (gDec iX10_addStem_ok 39 rfl) rfl (by decide) rfl ?_
          refine go_callV (n2 := 0) (q := 81) kX10_89 (ctX3_rem hH) (gDec iX10_addStem_ok 40 rfl) rfl rfl (by decide) rfl rfl rfl (Nat.le_of_ble_eq_true rfl) rfl (gFit_rm (by decide) (by decide)) rfl ?_
          refine go_aload_n (q := 82) (gDec iX10_addStem_ok 41 rfl) rfl rfl rfl ?_
          refine go_getr (r' := 1) (q := 85) fX10_10 (gDec iX10_addStem_ok 42 rfl) rfl (by decide) rfl ?_
          refine go_getr (r' := 29) (q := 88) fX10_162 (gDec iX10_addStem_ok 43 rfl) rfl (by decide) rfl ?_
          refine go_iload_n (q := 89) (gDec iX10_addStem_ok 44 rfl) rfl rfl rfl ?_
          refine go_iload_n (q := 90) (gDec iX10_addStem_ok 45 rfl) rfl rfl rfl ?_
          refine go_iload_n (q := 91) (gDec iX10_addStem_ok 46 rfl) rfl rfl rfl ?_
          refine go_callV (n2 := 0) (q := 94) kX10_309 (ctX8_insert (g := i) (N := gNs σ i) (by omega) (by omega) ((congrFun ((gRem_D σ) 31 (by decide)) i).trans (hW.ns (by omega)))) (gDec iX10_addStem_ok 47 rfl) rfl rfl (by decide) rfl rfl rfl (Nat.le_of_ble_eq_true rfl) rfl (gFit_rm (by decide) (by decide)) rfl ?_
          exact go_ireturn (gDec iX10_addStem_ok 48 rfl) rfl rfl rfl rfl (by decide)
        · rw [if_pos (Or.inr h6)]
          refine go_aload_n (q := 1) (gDec iX10_addStem_ok 0 rfl) rfl rfl rfl ?_
          refine go_iload_n (q := 2) (gDec iX10_addStem_ok 1 rfl) rfl rfl rfl ?_
          refine go_callV (n2 := 0) (q := 5) kX10_96 (ctX10_rG hW hi) (gDec iX10_addStem_ok 2 rfl) rfl rfl (by decide) rfl rfl rfl (Nat.le_of_ble_eq_true rfl) rfl (gFit_rm (by decide) (by decide)) rfl ?_
          refine go_iload_n (q := 6) (gDec iX10_addStem_ok 3 rfl) rfl rfl rfl ?_
          refine go_i2l (q := 7) (gDec iX10_addStem_ok 4 rfl) rfl ?_
          refine go_iload_n (q := 8) (gDec iX10_addStem_ok 5 rfl) rfl rfl rfl ?_
          refine go_i2l (q := 9) (gDec iX10_addStem_ok 6 rfl) rfl ?_
          refine go_callS (n2 := 0) (q := 12) kX10_102 (ctX10_requireCoordinates (x := f.toInt64) (y := t.toInt64) (by rw [i2l_toInt, i2l_toInt]; exact h2.1)) (gDec iX10_addStem_ok 7 rfl) rfl rfl (Nat.le_of_ble_eq_true rfl) rfl (gFit_rm (by decide) (by decide)) rfl ?_
          refine go_iload_n (q := 13) (gDec iX10_addStem_ok 8 rfl) rfl rfl rfl ?_
          refine go_iload_n (q := 14) (gDec iX10_addStem_ok 9 rfl) rfl rfl rfl ?_
          refine go_icmp_lt (t := 28) (q := 17) (gDec iX10_addStem_ok 10 rfl) (by decide) rfl (fun c14 => ?_) (fun c14 => False.elim (c14 h2.2))
          refine go_aload_n (q := 29) (gDec iX10_addStem_ok 16 rfl) rfl rfl rfl ?_
          refine go_getr (r' := 1) (q := 32) fX10_10 (gDec iX10_addStem_ok 17 rfl) rfl (by decide) rfl ?_
          refine go_getr (r' := 29) (q := 35) fX10_162 (gDec iX10_addStem_ok 18 rfl) rfl (by decide) rfl ?_
          refine go_iload_n (q := 36) (gDec iX10_addStem_ok 19 rfl) rfl rfl rfl ?_
          refine go_callV (n2 := 0) (q := 39) kX10_166 (ctX8_countOf (g := i) (by omega)) (gDec iX10_addStem_ok 20 rfl) rfl rfl (by decide) rfl rfl rfl (Nat.le_of_ble_eq_true rfl) rfl (gFit_rm (by decide) (by decide)) rfl ?_
          refine go_top (v' := nI (gNs σ i)) (hW.ns (by omega)) ?_
          refine go_iconst (v := 4) (q := 40) (gDec iX10_addStem_ok 21 rfl) (by decide) rfl ?_
          refine go_icmp_ge (t := 59) (q := 43) (gDec iX10_addStem_ok 22 rfl) (by decide) rfl (fun c40 => False.elim (nI_ge (a := gNs σ i) (b := 4) (by omega) (by decide) c40)) (fun c40 => ?_)
          refine go_aload_n (q := 44) (gDec iX10_addStem_ok 23 rfl) rfl rfl rfl ?_
          refine go_getr (r' := 1) (q := 47) fX10_10 (gDec iX10_addStem_ok 24 rfl) rfl (by decide) rfl ?_
          refine go_getr (r' := 29) (q := 50) fX10_162 (gDec iX10_addStem_ok 25 rfl) rfl (by decide) rfl ?_
          refine go_iload_n (q := 51) (gDec iX10_addStem_ok 26 rfl) rfl rfl rfl ?_
          refine go_iload_n (q := 52) (gDec iX10_addStem_ok 27 rfl) rfl rfl rfl ?_
          refine go_iload_n (q := 53) (gDec iX10_addStem_ok 28 rfl) rfl rfl rfl ?_
          refine go_callV (n2 := 0) (q := 56) kX10_303 (ctX8_isTaken (g := i) (N := gNs σ i) (by omega) h4 (hW.ns (by omega))) (gDec iX10_addStem_ok 29 rfl) rfl rfl (by decide) rfl rfl rfl (Nat.le_of_ble_eq_true rfl) rfl (gFit_rm (by decide) (by decide)) rfl ?_
          refine go_if_eq (t := 70) (q := 59) (gDec iX10_addStem_ok 30 rfl) (by decide) rfl (fun c56 => False.elim (h6 c56)) (fun c56 => ?_)
          exact go_throwW th_IllegalStateException (List.mem_of_getElem? (i := 20) rfl) rfl rfl (gDec iX10_addStem_ok 31 rfl) (gDec iX10_addStem_ok 32 rfl) (gDec iX10_addStem_ok 33 rfl) (gDec iX10_addStem_ok 34 rfl) (gDec iX10_addStem_ok 35 rfl) (by decide) (by decide)
    · rw [if_neg h2]
      by_cases h7 : gCo f.toInt t.toInt
      · skip
        refine go_aload_n (q := 1) (gDec iX10_addStem_ok 0 rfl) rfl rfl rfl ?_
        refine go_iload_n (q := 2) (gDec iX10_addStem_ok 1 rfl) rfl rfl rfl ?_
        refine go_callV (n2 := 0) (q := 5) kX10_96 (ctX10_rG hW hi) (gDec iX10_addStem_ok 2 rfl) rfl rfl (by decide) rfl rfl rfl (Nat.le_of_ble_eq_true rfl) rfl (gFit_rm (by decide) (by decide)) rfl ?_
        refine go_iload_n (q := 6) (gDec iX10_addStem_ok 3 rfl) rfl rfl rfl ?_
        refine go_i2l (q := 7) (gDec iX10_addStem_ok 4 rfl) rfl ?_
        refine go_iload_n (q := 8) (gDec iX10_addStem_ok 5 rfl) rfl rfl rfl ?_
        refine go_i2l (q := 9) (gDec iX10_addStem_ok 6 rfl) rfl ?_
        refine go_callS (n2 := 0) (q := 12) kX10_102 (ctX10_requireCoordinates (x := f.toInt64) (y := t.toInt64) (by rw [i2l_toInt, i2l_toInt]; exact h7)) (gDec iX10_addStem_ok 7 rfl) rfl rfl (Nat.le_of_ble_eq_true rfl) rfl (gFit_rm (by decide) (by decide)) rfl ?_
        refine go_iload_n (q := 13) (gDec iX10_addStem_ok 8 rfl) rfl rfl rfl ?_
        refine go_iload_n (q := 14) (gDec iX10_addStem_ok 9 rfl) rfl rfl rfl ?_
        refine go_icmp_lt (t := 28) (q := 17) (gDec iX10_addStem_ok 10 rfl) (by decide) rfl (fun c14 => False.elim (h2 ⟨h7, c14⟩)) (fun c14 => ?_)
        exact go_throwW th_IllegalArgumentException (List.mem_of_getElem? (i := 19) rfl) rfl rfl (gDec iX10_addStem_ok 11 rfl) (gDec iX10_addStem_ok 12 rfl) (gDec iX10_addStem_ok 13 rfl) (gDec iX10_addStem_ok 14 rfl) (gDec iX10_addStem_ok 15 rfl) (by decide) (by decide)
      · skip
        refine go_aload_n (q := 1) (gDec iX10_addStem_ok 0 rfl) rfl rfl rfl ?_
        refine go_iload_n (q := 2) (gDec iX10_addStem_ok 1 rfl) rfl rfl rfl ?_
        refine go_callV (n2 := 0) (q := 5) kX10_96 (ctX10_rG hW hi) (gDec iX10_addStem_ok 2 rfl) rfl rfl (by decide) rfl rfl rfl (Nat.le_of_ble_eq_true rfl) rfl (gFit_rm (by decide) (by decide)) rfl ?_
        refine go_iload_n (q := 6) (gDec iX10_addStem_ok 3 rfl) rfl rfl rfl ?_
        refine go_i2l (q := 7) (gDec iX10_addStem_ok 4 rfl) rfl ?_
        refine go_iload_n (q := 8) (gDec iX10_addStem_ok 5 rfl) rfl rfl rfl ?_
        refine go_i2l (q := 9) (gDec iX10_addStem_ok 6 rfl) rfl ?_
        exact go_callS_x kX10_102 (ctX10_requireCoordinates_x (x := f.toInt64) (y := t.toInt64) (by rw [i2l_toInt, i2l_toInt]; exact h7)) (gDec iX10_addStem_ok 7 rfl) rfl rfl (Nat.le_of_ble_eq_true rfl) (gFit_rm (by decide) (by decide)) rfl
  · rw [show fAddStem σ g f t = (xIOB, σ) from if_neg h1]
    refine go_aload_n (q := 1) (gDec iX10_addStem_ok 0 rfl) rfl rfl rfl ?_
    refine go_iload_n (q := 2) (gDec iX10_addStem_ok 1 rfl) rfl rfl rfl ?_
    exact go_callV_x kX10_96 (ctX10_requireGlyph_x hW h1) (gDec iX10_addStem_ok 2 rfl) rfl rfl (by decide) rfl rfl rfl (Nat.le_of_ble_eq_true rfl) (gFit_rm (by decide) (by decide)) rfl

set_option maxHeartbeats 4000000 in
set_option maxRecDepth 100000 in
theorem ctX10_stem {κ : gK} {σ : gST} {g s y : Int32} (hW : gDW σ) : gCt κ mX10_stem 9 [.ref (κ.2.1 + 0), .int g, .int s, .int y] σ (fStem σ g s y).1 (fStem σ g s y).2 1 := by
  refine ct_of (by decide +kernel) rfl (Nat.le_of_ble_eq_true rfl) rfl ?_
  by_cases h1 : gInT σ g s
  · have hs : fStem σ g s y = _ := if_pos h1
    obtain ⟨i, j, hi, hj, rfl, rfl⟩ := gInT.ex hW h1
    have h24 := hW.ng24
    have h4 := hW.ns4 (g := i) (by omega)
    rw [hs, nA_nI (n := i) (by omega), nA_nI (n := j) (by omega)]
    refine go_aload_n (q := 1) (gDec iX10_stem_ok 0 rfl) rfl rfl rfl ?_
    refine go_iload_n (q := 2) (gDec iX10_stem_ok 1 rfl) rfl rfl rfl ?_
    refine go_iload_n (q := 3) (gDec iX10_stem_ok 2 rfl) rfl rfl rfl ?_
    refine go_callV (n2 := 0) (q := 6) kX10_312 (ctX10_rT hW hi hj) (gDec iX10_stem_ok 3 rfl) rfl rfl (by decide) rfl rfl rfl (Nat.le_of_ble_eq_true rfl) rfl (gFit_rm (by decide) (by decide)) rfl ?_
    refine go_iload_n (q := 7) (gDec iX10_stem_ok 4 rfl) rfl rfl rfl ?_
    refine go_if_eq (t := 25) (q := 10) (gDec iX10_stem_ok 5 rfl) (by decide) rfl (fun c7 => ?_) (fun c7 => ?_)
    · refine go_aload_n (q := 26) (gDec iX10_stem_ok 13 rfl) rfl rfl rfl ?_
      refine go_getr (r' := 1) (q := 29) fX10_10 (gDec iX10_stem_ok 14 rfl) rfl (by decide) rfl ?_
      refine go_getr (r' := 29) (q := 32) fX10_162 (gDec iX10_stem_ok 15 rfl) rfl (by decide) rfl ?_
      refine go_iload_n (q := 33) (gDec iX10_stem_ok 16 rfl) rfl rfl rfl ?_
      refine go_iload_n (q := 34) (gDec iX10_stem_ok 17 rfl) rfl rfl rfl ?_
      refine go_callV (n2 := 0) (q := 37) kX10_321 (ctX8_leftOf (g := i) (k := j) (by omega) (by omega)) (gDec iX10_stem_ok 18 rfl) rfl rfl (by decide) rfl rfl rfl (Nat.le_of_ble_eq_true rfl) rfl (gFit_rm (by decide) (by decide)) rfl ?_
      exact go_ireturn (gDec iX10_stem_ok 19 rfl) rfl rfl (by first | rw [if_pos c7] | rw [if_neg c7]) rfl (by decide)
    · refine go_aload_n (q := 11) (gDec iX10_stem_ok 6 rfl) rfl rfl rfl ?_
      refine go_getr (r' := 1) (q := 14) fX10_10 (gDec iX10_stem_ok 7 rfl) rfl (by decide) rfl ?_
      refine go_getr (r' := 29) (q := 17) fX10_162 (gDec iX10_stem_ok 8 rfl) rfl (by decide) rfl ?_
      refine go_iload_n (q := 18) (gDec iX10_stem_ok 9 rfl) rfl rfl rfl ?_
      refine go_iload_n (q := 19) (gDec iX10_stem_ok 10 rfl) rfl rfl rfl ?_
      refine go_callV (n2 := 0) (q := 22) kX10_318 (ctX8_rightOf (g := i) (k := j) (by omega) (by omega)) (gDec iX10_stem_ok 11 rfl) rfl rfl (by decide) rfl rfl rfl (Nat.le_of_ble_eq_true rfl) rfl (gFit_rm (by decide) (by decide)) rfl ?_
      refine go_goto (t := 37) (gDec iX10_stem_ok 12 rfl) (by decide) ?_
      exact go_ireturn (gDec iX10_stem_ok 19 rfl) rfl rfl (by first | rw [if_pos c7] | rw [if_neg c7]) rfl (by decide)
  · rw [show fStem σ g s y = (xIOB, σ) from if_neg h1]
    refine go_aload_n (q := 1) (gDec iX10_stem_ok 0 rfl) rfl rfl rfl ?_
    refine go_iload_n (q := 2) (gDec iX10_stem_ok 1 rfl) rfl rfl rfl ?_
    refine go_iload_n (q := 3) (gDec iX10_stem_ok 2 rfl) rfl rfl rfl ?_
    exact go_callV_x kX10_312 (ctX10_rTx hW h1) (gDec iX10_stem_ok 3 rfl) rfl rfl (by decide) rfl rfl rfl (Nat.le_of_ble_eq_true rfl) (gFit_rm (by decide) (by decide)) rfl

set_option maxHeartbeats 4000000 in
set_option maxRecDepth 100000 in
theorem ctX10_removeStem {κ : gK} {σ : gST} {g s : Int32} (hW : gDW σ) (hH : gHW σ) : gCt κ mX10_removeStem 9 [.ref (κ.2.1 + 0), .int g, .int s] σ (fRemoveStem σ g s).1 (fRemoveStem σ g s).2 1 := by
  refine ct_of (by decide +kernel) rfl (Nat.le_of_ble_eq_true rfl) rfl ?_
  by_cases h1 : gInT σ g s
  · have hs : fRemoveStem σ g s = _ := if_pos h1
    obtain ⟨i, j, hi, hj, rfl, rfl⟩ := gInT.ex hW h1
    have h24 := hW.ng24
    have h4 := hW.ns4 (g := i) (by omega)
    rw [hs, nA_nI (n := i) (by omega), nA_nI (n := j) (by omega)]
    obtain ⟨n, hn⟩ : ∃ n, gNs σ i = n + 1 := ⟨gNs σ i - 1, by omega⟩
    have hns := (congrFun ((gRem_D σ) 31 (by decide)) i).trans (hW.ns (g := i) (by omega))
    rw [hn] at hns
    rw [hn, Nat.add_sub_cancel, show σ.1 35 = (gRem σ).1 35 from ((gRem_D σ) 35 (by decide)).symm, show σ.1 33 = (gRem σ).1 33 from ((gRem_D σ) 33 (by decide)).symm]
    refine go_aload_n (q := 1) (gDec iX10_removeStem_ok 0 rfl) rfl rfl rfl ?_
    refine go_iload_n (q := 2) (gDec iX10_removeStem_ok 1 rfl) rfl rfl rfl ?_
    refine go_iload_n (q := 3) (gDec iX10_removeStem_ok 2 rfl) rfl rfl rfl ?_
    refine go_callV (n2 := 0) (q := 6) kX10_312 (ctX10_rT hW hi hj) (gDec iX10_removeStem_ok 3 rfl) rfl rfl (by decide) rfl rfl rfl (Nat.le_of_ble_eq_true rfl) rfl (gFit_rm (by decide) (by decide)) rfl ?_
    refine go_aload_n (q := 7) (gDec iX10_removeStem_ok 4 rfl) rfl rfl rfl ?_
    refine go_getr (r' := 71) (q := 10) fX10_22 (gDec iX10_removeStem_ok 5 rfl) rfl (by decide) rfl ?_
    refine go_aload_n (q := 11) (gDec iX10_removeStem_ok 6 rfl) rfl rfl rfl ?_
    refine go_getr (r' := 1) (q := 14) fX10_10 (gDec iX10_removeStem_ok 7 rfl) rfl (by decide) rfl ?_
    refine go_callV (n2 := 0) (q := 17) kX10_89 (ctX3_rem hH) (gDec iX10_removeStem_ok 8 rfl) rfl rfl (by decide) rfl rfl rfl (Nat.le_of_ble_eq_true rfl) rfl (gFit_rm (by decide) (by decide)) rfl ?_
    refine go_aload_n (q := 18) (gDec iX10_removeStem_ok 9 rfl) rfl rfl rfl ?_
    refine go_getr (r' := 1) (q := 21) fX10_10 (gDec iX10_removeStem_ok 10 rfl) rfl (by decide) rfl ?_
    refine go_getr (r' := 29) (q := 24) fX10_162 (gDec iX10_removeStem_ok 11 rfl) rfl (by decide) rfl ?_
    refine go_iload_n (q := 25) (gDec iX10_removeStem_ok 12 rfl) rfl rfl rfl ?_
    refine go_iload_n (q := 26) (gDec iX10_removeStem_ok 13 rfl) rfl rfl rfl ?_
    refine go_callV (n2 := 0) (q := 29) kX10_315 (ctX8_takeOut (g := i) (n := n) (k := j) (by omega) (by omega) (by omega) hns) (gDec iX10_removeStem_ok 14 rfl) rfl rfl (by decide) rfl rfl rfl (Nat.le_of_ble_eq_true rfl) rfl (gFit_rm (by decide) (by decide)) rfl ?_
    exact go_ireturn (gDec iX10_removeStem_ok 15 rfl) rfl rfl rfl rfl (by decide)
  · rw [show fRemoveStem σ g s = (xIOB, σ) from if_neg h1]
    refine go_aload_n (q := 1) (gDec iX10_removeStem_ok 0 rfl) rfl rfl rfl ?_
    refine go_iload_n (q := 2) (gDec iX10_removeStem_ok 1 rfl) rfl rfl rfl ?_
    refine go_iload_n (q := 3) (gDec iX10_removeStem_ok 2 rfl) rfl rfl rfl ?_
    exact go_callV_x kX10_312 (ctX10_rTx hW h1) (gDec iX10_removeStem_ok 3 rfl) rfl rfl (by decide) rfl rfl rfl (Nat.le_of_ble_eq_true rfl) (gFit_rm (by decide) (by decide)) rfl
