set_option maxHeartbeats 4000000 in
set_option maxRecDepth 100000 in
theorem ctX10_place {κ : gK} {σ : gST} {g z v : Int32} (hW : gDW σ) : gCt κ mX10_place 9 [.ref (κ.2.1 + 0), .int g, .int z, .int v] σ (fPlace σ g z v).1 (fPlace σ g z v).2 1 := by
  refine ct_of (by decide +kernel) rfl (Nat.le_of_ble_eq_true rfl) rfl ?_
  by_cases h1 : gInG σ g
  · have hs : fPlace σ g z v = _ := if_pos h1
    rw [hs]
    obtain ⟨i, hi, rfl⟩ := gInG.ex h1
    have h24 := hW.ng24
    have h4 := hW.ns4 (g := i) (by omega)
    rw [nA_nI (n := i) (by omega)]
    by_cases h2 : (6 ≤ z.toInt ∧ z.toInt ≤ 60) ∧ (-1000 ≤ v.toInt ∧ v.toInt ≤ 2000)
    · rw [if_pos h2]
      refine go_aload_n (q := 1) (gDec iX10_place_ok 0 rfl) rfl rfl rfl ?_
      refine go_iload_n (q := 2) (gDec iX10_place_ok 1 rfl) rfl rfl rfl ?_
      refine go_callV (n2 := 0) (q := 5) kX10_96 (ctX10_rG hW hi) (gDec iX10_place_ok 2 rfl) rfl rfl (by decide) rfl rfl rfl (Nat.le_of_ble_eq_true rfl) rfl (gFit_rm (by decide) (by decide)) rfl ?_
      refine go_iload_n (q := 6) (gDec iX10_place_ok 3 rfl) rfl rfl rfl ?_
      refine go_bipush (v := 60) (q := 8) (gDec iX10_place_ok 4 rfl) (by decide) rfl ?_
      refine go_callS (n2 := 0) (q := 11) kX10_324 (ctX10_requireGrid (v := z) (m := 60) ⟨h2.1.1, h2.1.2⟩) (gDec iX10_place_ok 5 rfl) rfl rfl (Nat.le_of_ble_eq_true rfl) rfl (gFit_rm (by decide) (by decide)) rfl ?_
      refine go_iload_n (q := 12) (gDec iX10_place_ok 6 rfl) rfl rfl rfl ?_
      refine go_i2l (q := 13) (gDec iX10_place_ok 7 rfl) rfl ?_
      refine go_ldc2 (q := 16) wX10_327 (gDec iX10_place_ok 8 rfl) rfl ?_
      refine go_ldc2 (q := 19) wX10_329 (gDec iX10_place_ok 9 rfl) rfl ?_
      refine go_callS (n2 := 0) (q := 22) kX10_59 ctX10_isWithin (gDec iX10_place_ok 10 rfl) rfl rfl (Nat.le_of_ble_eq_true rfl) rfl (gFit_rm (by decide) (by decide)) rfl ?_
      refine go_top (v' := 1) (gWi_t (by rw [i2l_toInt]; exact h2.2)) ?_
      refine go_if_ne (t := 36) (q := 25) (gDec iX10_place_ok 11 rfl) (by decide) rfl (fun c22 => ?_) (fun c22 => False.elim (absurd c22 (by decide)))
      refine go_aload_n (q := 37) (gDec iX10_place_ok 17 rfl) rfl rfl rfl ?_
      refine go_getr (r' := 1) (q := 40) fX10_10 (gDec iX10_place_ok 18 rfl) rfl (by decide) rfl ?_
      refine go_getr (r' := 29) (q := 43) fX10_162 (gDec iX10_place_ok 19 rfl) rfl (by decide) rfl ?_
      refine go_iload_n (q := 44) (gDec iX10_place_ok 20 rfl) rfl rfl rfl ?_
      refine go_iload_n (q := 45) (gDec iX10_place_ok 21 rfl) rfl rfl rfl ?_
      refine go_iload_n (q := 46) (gDec iX10_place_ok 22 rfl) rfl rfl rfl ?_
      refine go_callV (n2 := 0) (q := 49) kX10_333 (ctX8_placeOn (g := i) (N := gNs σ i) (by omega) h4 (hW.ns (by omega))) (gDec iX10_place_ok 23 rfl) rfl rfl (by decide) rfl rfl rfl (Nat.le_of_ble_eq_true rfl) rfl (gFit_rm (by decide) (by decide)) rfl ?_
      exact go_ireturn (gDec iX10_place_ok 24 rfl) rfl rfl rfl rfl (by decide)
    · rw [if_neg h2]
      by_cases h3 : 6 ≤ z.toInt ∧ z.toInt ≤ 60
      · have h5 : ¬ (-1000 ≤ v.toInt ∧ v.toInt ≤ 2000) := fun h9 => h2 ⟨h3, h9⟩
        refine go_aload_n (q := 1) (gDec iX10_place_ok 0 rfl) rfl rfl rfl ?_
        refine go_iload_n (q := 2) (gDec iX10_place_ok 1 rfl) rfl rfl rfl ?_
        refine go_callV (n2 := 0) (q := 5) kX10_96 (ctX10_rG hW hi) (gDec iX10_place_ok 2 rfl) rfl rfl (by decide) rfl rfl rfl (Nat.le_of_ble_eq_true rfl) rfl (gFit_rm (by decide) (by decide)) rfl ?_
        refine go_iload_n (q := 6) (gDec iX10_place_ok 3 rfl) rfl rfl rfl ?_
        refine go_bipush (v := 60) (q := 8) (gDec iX10_place_ok 4 rfl) (by decide) rfl ?_
        refine go_callS (n2 := 0) (q := 11) kX10_324 (ctX10_requireGrid (v := z) (m := 60) h3) (gDec iX10_place_ok 5 rfl) rfl rfl (Nat.le_of_ble_eq_true rfl) rfl (gFit_rm (by decide) (by decide)) rfl ?_
        refine go_iload_n (q := 12) (gDec iX10_place_ok 6 rfl) rfl rfl rfl ?_
        refine go_i2l (q := 13) (gDec iX10_place_ok 7 rfl) rfl ?_
        refine go_ldc2 (q := 16) wX10_327 (gDec iX10_place_ok 8 rfl) rfl ?_
        refine go_ldc2 (q := 19) wX10_329 (gDec iX10_place_ok 9 rfl) rfl ?_
        refine go_callS (n2 := 0) (q := 22) kX10_59 ctX10_isWithin (gDec iX10_place_ok 10 rfl) rfl rfl (Nat.le_of_ble_eq_true rfl) rfl (gFit_rm (by decide) (by decide)) rfl ?_
        refine go_top (v' := 0) (gWi_f (by rw [i2l_toInt]; exact h5)) ?_
        refine go_if_ne (t := 36) (q := 25) (gDec iX10_place_ok 11 rfl) (by decide) rfl (fun c22 => False.elim (c22 rfl)) (fun c22 => ?_)
        exact go_throwW th_IllegalArgumentException (List.mem_of_getElem? (i := 23) rfl) rfl rfl (gDec iX10_place_ok 12 rfl) (gDec iX10_place_ok 13 rfl) (gDec iX10_place_ok 14 rfl) (gDec iX10_place_ok 15 rfl) (gDec iX10_place_ok 16 rfl) (by decide) (by decide)
      · skip
        refine go_aload_n (q := 1) (gDec iX10_place_ok 0 rfl) rfl rfl rfl ?_
        refine go_iload_n (q := 2) (gDec iX10_place_ok 1 rfl) rfl rfl rfl ?_
        refine go_callV (n2 := 0) (q := 5) kX10_96 (ctX10_rG hW hi) (gDec iX10_place_ok 2 rfl) rfl rfl (by decide) rfl rfl rfl (Nat.le_of_ble_eq_true rfl) rfl (gFit_rm (by decide) (by decide)) rfl ?_
        refine go_iload_n (q := 6) (gDec iX10_place_ok 3 rfl) rfl rfl rfl ?_
        refine go_bipush (v := 60) (q := 8) (gDec iX10_place_ok 4 rfl) (by decide) rfl ?_
        exact go_callS_x kX10_324 (ctX10_requireGrid_x (v := z) (m := 60) h3) (gDec iX10_place_ok 5 rfl) rfl rfl (Nat.le_of_ble_eq_true rfl) (gFit_rm (by decide) (by decide)) rfl
  · rw [show fPlace σ g z v = (xIOB, σ) from if_neg h1]
    refine go_aload_n (q := 1) (gDec iX10_place_ok 0 rfl) rfl rfl rfl ?_
    refine go_iload_n (q := 2) (gDec iX10_place_ok 1 rfl) rfl rfl rfl ?_
    exact go_callV_x kX10_96 (ctX10_requireGlyph_x hW h1) (gDec iX10_place_ok 2 rfl) rfl rfl (by decide) rfl rfl rfl (Nat.le_of_ble_eq_true rfl) (gFit_rm (by decide) (by decide)) rfl

def fSetProof (σ : gST) (t s : Int32) : gO × gST :=
  if (-100 ≤ t.toInt ∧ t.toInt ≤ 200) ∧ (50 ≤ s.toInt ∧ s.toInt ≤ 1000) then (rI (σ.1 1 5), gPut (gPut (gRem σ) 1 4 t) 1 5 s) else (xIAE, σ)
def fAppend (σ : gST) (c : Int32) : gO × gST := if gTl σ = 60 then (xISE, σ) else (.inl none, gPut (gPut σ 355 (gTl σ) c) 353 1 (nI (gTl σ + 1)))
def fFault (σ : gST) : gO × gST := (rI (σ.1 0 7), σ)
def fSave (σ : gST) : gO × gST := (.inl none, gPut (gDc gLX1_copyFrom σ 36 1) 0 6 1)
def fRestore (σ : gST) : gO × gST := if σ.1 0 6 = 0 then (xISE, σ) else (.inl none, gPut (gPut (gDc gLX1_copyFrom σ 1 36) 71 2 0) 363 6 0)

set_option maxHeartbeats 4000000 in
set_option maxRecDepth 100000 in
theorem ctX10_setProof {κ : gK} {σ : gST} {t s : Int32} (hW : gDW σ) (hH : gHW σ) : gCt κ mX10_setProof 9 [.ref (κ.2.1 + 0), .int t, .int s] σ (fSetProof σ t s).1 (fSetProof σ t s).2 1 := by
  refine ct_of (by decide +kernel) rfl (Nat.le_of_ble_eq_true rfl) rfl ?_
  by_cases h1 : -100 ≤ t.toInt ∧ t.toInt ≤ 200
  · by_cases h2 : 50 ≤ s.toInt ∧ s.toInt ≤ 1000
    · rw [show fSetProof σ t s = _ from if_pos ⟨h1, h2⟩]
      refine go_iload_n (q := 1) (gDec iX10_setProof_ok 0 rfl) rfl rfl rfl ?_
      refine go_i2l (q := 2) (gDec iX10_setProof_ok 1 rfl) rfl ?_
      refine go_ldc2 (q := 5) wX10_336 (gDec iX10_setProof_ok 2 rfl) rfl ?_
      refine go_ldc2 (q := 8) wX10_211 (gDec iX10_setProof_ok 3 rfl) rfl ?_
      refine go_callS (n2 := 0) (q := 11) kX10_59 ctX10_isWithin (gDec iX10_setProof_ok 4 rfl) rfl rfl (Nat.le_of_ble_eq_true rfl) rfl (gFit_rm (by decide) (by decide)) rfl ?_
      refine go_top (v' := 1) (gWi_t (by rw [i2l_toInt]; exact h1)) ?_
      refine go_if_eq (t := 28) (q := 14) (gDec iX10_setProof_ok 5 rfl) (by decide) rfl (fun c11 => False.elim (absurd c11 (by decide))) (fun c11 => ?_)
      refine go_iload_n (q := 15) (gDec iX10_setProof_ok 6 rfl) rfl rfl rfl ?_
      refine go_i2l (q := 16) (gDec iX10_setProof_ok 7 rfl) rfl ?_
      refine go_ldc2 (q := 19) wX10_352 (gDec iX10_setProof_ok 8 rfl) rfl ?_
      refine go_ldc2 (q := 22) wX10_354 (gDec iX10_setProof_ok 9 rfl) rfl ?_
      refine go_callS (n2 := 0) (q := 25) kX10_59 ctX10_isWithin (gDec iX10_setProof_ok 10 rfl) rfl rfl (Nat.le_of_ble_eq_true rfl) rfl (gFit_rm (by decide) (by decide)) rfl ?_
      refine go_top (v' := 1) (gWi_t (by rw [i2l_toInt]; exact h2)) ?_
      refine go_if_ne (t := 39) (q := 28) (gDec iX10_setProof_ok 11 rfl) (by decide) rfl (fun c25 => ?_) (fun c25 => False.elim (absurd c25 (by decide)))
      refine go_aload_n (q := 40) (gDec iX10_setProof_ok 17 rfl) rfl rfl rfl ?_
      refine go_getr (r' := 71) (q := 43) fX10_22 (gDec iX10_setProof_ok 18 rfl) rfl (by decide) rfl ?_
      refine go_aload_n (q := 44) (gDec iX10_setProof_ok 19 rfl) rfl rfl rfl ?_
      refine go_getr (r' := 1) (q := 47) fX10_10 (gDec iX10_setProof_ok 20 rfl) rfl (by decide) rfl ?_
      refine go_callV (n2 := 0) (q := 50) kX10_89 (ctX3_rem hH) (gDec iX10_setProof_ok 21 rfl) rfl rfl (by decide) rfl rfl rfl (Nat.le_of_ble_eq_true rfl) rfl (gFit_rm (by decide) (by decide)) rfl ?_
      refine go_aload_n (q := 51) (gDec iX10_setProof_ok 22 rfl) rfl rfl rfl ?_
      refine go_getr (r' := 1) (q := 54) fX10_10 (gDec iX10_setProof_ok 23 rfl) rfl (by decide) rfl ?_
      refine go_geti (q := 57) fX10_358 (gDec iX10_setProof_ok 24 rfl) rfl (by decide) rfl ?_
      refine go_top (v' := σ.1 1 5) (congrFun ((gRem_D σ) 1 (by decide)) 5) ?_
      refine go_istore_n (q := 58) (gDec iX10_setProof_ok 25 rfl) rfl (by decide) rfl ?_
      refine go_aload_n (q := 59) (gDec iX10_setProof_ok 26 rfl) rfl rfl rfl ?_
      refine go_getr (r' := 1) (q := 62) fX10_10 (gDec iX10_setProof_ok 27 rfl) rfl (by decide) rfl ?_
      refine go_iload_n (q := 63) (gDec iX10_setProof_ok 28 rfl) rfl rfl rfl ?_
      refine go_puti (q := 66) fX10_361 gft1 (gDec iX10_setProof_ok 29 rfl) rfl (by decide) rfl rfl rfl rfl ?_
      refine go_aload_n (q := 67) (gDec iX10_setProof_ok 30 rfl) rfl rfl rfl ?_
      refine go_getr (r' := 1) (q := 70) fX10_10 (gDec iX10_setProof_ok 31 rfl) rfl (by decide) rfl ?_
      refine go_iload_n (q := 71) (gDec iX10_setProof_ok 32 rfl) rfl rfl rfl ?_
      refine go_puti (q := 74) fX10_358 gft1 (gDec iX10_setProof_ok 33 rfl) rfl (by decide) rfl rfl rfl rfl ?_
      refine go_iload_n (q := 75) (gDec iX10_setProof_ok 34 rfl) rfl rfl rfl ?_
      exact go_ireturn (gDec iX10_setProof_ok 35 rfl) rfl rfl rfl rfl (by decide)
    · rw [show fSetProof σ t s = _ from if_neg (fun h9 => h2 h9.2)]
      refine go_iload_n (q := 1) (gDec iX10_setProof_ok 0 rfl) rfl rfl rfl ?_
      refine go_i2l (q := 2) (gDec iX10_setProof_ok 1 rfl) rfl ?_
      refine go_ldc2 (q := 5) wX10_336 (gDec iX10_setProof_ok 2 rfl) rfl ?_
      refine go_ldc2 (q := 8) wX10_211 (gDec iX10_setProof_ok 3 rfl) rfl ?_
      refine go_callS (n2 := 0) (q := 11) kX10_59 ctX10_isWithin (gDec iX10_setProof_ok 4 rfl) rfl rfl (Nat.le_of_ble_eq_true rfl) rfl (gFit_rm (by decide) (by decide)) rfl ?_
      refine go_top (v' := 1) (gWi_t (by rw [i2l_toInt]; exact h1)) ?_
      refine go_if_eq (t := 28) (q := 14) (gDec iX10_setProof_ok 5 rfl) (by decide) rfl (fun c11 => False.elim (absurd c11 (by decide))) (fun c11 => ?_)
      refine go_iload_n (q := 15) (gDec iX10_setProof_ok 6 rfl) rfl rfl rfl ?_
      refine go_i2l (q := 16) (gDec iX10_setProof_ok 7 rfl) rfl ?_
      refine go_ldc2 (q := 19) wX10_352 (gDec iX10_setProof_ok 8 rfl) rfl ?_
      refine go_ldc2 (q := 22) wX10_354 (gDec iX10_setProof_ok 9 rfl) rfl ?_
      refine go_callS (n2 := 0) (q := 25) kX10_59 ctX10_isWithin (gDec iX10_setProof_ok 10 rfl) rfl rfl (Nat.le_of_ble_eq_true rfl) rfl (gFit_rm (by decide) (by decide)) rfl ?_
      refine go_top (v' := 0) (gWi_f (by rw [i2l_toInt]; exact h2)) ?_
      refine go_if_ne (t := 39) (q := 28) (gDec iX10_setProof_ok 11 rfl) (by decide) rfl (fun c25 => False.elim (c25 rfl)) (fun c25 => ?_)
      exact go_throwW th_IllegalArgumentException (List.mem_of_getElem? (i := 25) rfl) rfl rfl (gDec iX10_setProof_ok 12 rfl) (gDec iX10_setProof_ok 13 rfl) (gDec iX10_setProof_ok 14 rfl) (gDec iX10_setProof_ok 15 rfl) (gDec iX10_setProof_ok 16 rfl) (by decide) (by decide)
  · rw [show fSetProof σ t s = _ from if_neg (fun h9 => h1 h9.1)]
    refine go_iload_n (q := 1) (gDec iX10_setProof_ok 0 rfl) rfl rfl rfl ?_
    refine go_i2l (q := 2) (gDec iX10_setProof_ok 1 rfl) rfl ?_
    refine go_ldc2 (q := 5) wX10_336 (gDec iX10_setProof_ok 2 rfl) rfl ?_
    refine go_ldc2 (q := 8) wX10_211 (gDec iX10_setProof_ok 3 rfl) rfl ?_
    refine go_callS (n2 := 0) (q := 11) kX10_59 ctX10_isWithin (gDec iX10_setProof_ok 4 rfl) rfl rfl (Nat.le_of_ble_eq_true rfl) rfl (gFit_rm (by decide) (by decide)) rfl ?_
    refine go_top (v' := 0) (gWi_f (by rw [i2l_toInt]; exact h1)) ?_
    refine go_if_eq (t := 28) (q := 14) (gDec iX10_setProof_ok 5 rfl) (by decide) rfl (fun c11 => ?_) (fun c11 => False.elim (c11 rfl))
    exact go_throwW th_IllegalArgumentException (List.mem_of_getElem? (i := 25) rfl) rfl rfl (gDec iX10_setProof_ok 12 rfl) (gDec iX10_setProof_ok 13 rfl) (gDec iX10_setProof_ok 14 rfl) (gDec iX10_setProof_ok 15 rfl) (gDec iX10_setProof_ok 16 rfl) (by decide) (by decide)

set_option maxHeartbeats 4000000 in
set_option maxRecDepth 100000 in
theorem ctX10_append {κ : gK} {σ : gST} {c : Int32} (hT : gTW σ) : gCt κ mX10_append 9 [.ref (κ.2.1 + 0), .int c] σ (fAppend σ c).1 (fAppend σ c).2 1 := by
  refine ct_of (by decide +kernel) rfl (Nat.le_of_ble_eq_true rfl) rfl ?_
  have h60 := hT.tl60
  by_cases h1 : gTl σ = 60
  · rw [show fAppend σ c = _ from if_pos h1]
    refine go_aload_n (q := 1) (gDec iX10_append_ok 0 rfl) rfl rfl rfl ?_
    refine go_getr (r' := 353) (q := 4) fX10_29 (gDec iX10_append_ok 1 rfl) rfl (by decide) rfl ?_
    refine go_callV (n2 := 0) (q := 7) kX10_364 (ctX9_isFull (n := gTl σ) hT.tl h60) (gDec iX10_append_ok 2 rfl) rfl rfl (by decide) rfl rfl rfl (Nat.le_of_ble_eq_true rfl) rfl (gFit_rm (by decide) (by decide)) rfl ?_
    refine go_if_eq (t := 21) (q := 10) (gDec iX10_append_ok 3 rfl) (by decide) rfl (fun c7 => False.elim (by rw [if_pos h1] at c7; exact absurd c7 (by decide))) (fun c7 => ?_)
    exact go_throwW th_IllegalStateException (List.mem_of_getElem? (i := 26) rfl) rfl rfl (gDec iX10_append_ok 4 rfl) (gDec iX10_append_ok 5 rfl) (gDec iX10_append_ok 6 rfl) (gDec iX10_append_ok 7 rfl) (gDec iX10_append_ok 8 rfl) (by decide) (by decide)
  · rw [show fAppend σ c = _ from if_neg h1]
    refine go_aload_n (q := 1) (gDec iX10_append_ok 0 rfl) rfl rfl rfl ?_
    refine go_getr (r' := 353) (q := 4) fX10_29 (gDec iX10_append_ok 1 rfl) rfl (by decide) rfl ?_
    refine go_callV (n2 := 0) (q := 7) kX10_364 (ctX9_isFull (n := gTl σ) hT.tl h60) (gDec iX10_append_ok 2 rfl) rfl rfl (by decide) rfl rfl rfl (Nat.le_of_ble_eq_true rfl) rfl (gFit_rm (by decide) (by decide)) rfl ?_
    refine go_if_eq (t := 21) (q := 10) (gDec iX10_append_ok 3 rfl) (by decide) rfl (fun c7 => ?_) (fun c7 => False.elim (by rw [if_neg h1] at c7; exact c7 rfl))
    refine go_aload_n (q := 22) (gDec iX10_append_ok 9 rfl) rfl rfl rfl ?_
    refine go_getr (r' := 353) (q := 25) fX10_29 (gDec iX10_append_ok 10 rfl) rfl (by decide) rfl ?_
    refine go_iload_n (q := 26) (gDec iX10_append_ok 11 rfl) rfl rfl rfl ?_
    refine go_callV (n2 := 0) (q := 29) kX10_367 (ctX9_add (n := gTl σ) hT.tl (by omega)) (gDec iX10_append_ok 12 rfl) rfl rfl (by decide) rfl rfl rfl (Nat.le_of_ble_eq_true rfl) rfl (gFit_rm (by decide) (by decide)) rfl ?_
    exact go_return (gDec iX10_append_ok 13 rfl) rfl rfl rfl (by decide)

set_option maxHeartbeats 4000000 in
set_option maxRecDepth 100000 in
theorem ctX10_faultPosition {κ : gK} {σ : gST}  : gCt κ mX10_faultPosition 9 [.ref (κ.2.1 + 0)] σ (fFault σ).1 (fFault σ).2 1 := by
  refine ct_of (by decide +kernel) rfl (Nat.le_of_ble_eq_true rfl) rfl ?_
  refine go_aload_n (q := 1) (gDec iX10_faultPosition_ok 0 rfl) rfl rfl rfl ?_
  refine go_geti (q := 4) fX10_51 (gDec iX10_faultPosition_ok 1 rfl) rfl (by decide) rfl ?_
  exact go_ireturn (gDec iX10_faultPosition_ok 2 rfl) rfl rfl rfl rfl (by decide)

set_option maxHeartbeats 4000000 in
set_option maxRecDepth 100000 in
theorem ctX10_save {κ : gK} {σ : gST}  : gCt κ mX10_save 9 [.ref (κ.2.1 + 0)] σ (fSave σ).1 (fSave σ).2 1 := by
  refine ct_of (by decide +kernel) rfl (Nat.le_of_ble_eq_true rfl) rfl ?_
  refine go_aload_n (q := 1) (gDec iX10_save_ok 0 rfl) rfl rfl rfl ?_
  refine go_getr (r' := 36) (q := 4) fX10_16 (gDec iX10_save_ok 1 rfl) rfl (by decide) rfl ?_
  refine go_aload_n (q := 5) (gDec iX10_save_ok 2 rfl) rfl rfl rfl ?_
  refine go_getr (r' := 1) (q := 8) fX10_10 (gDec iX10_save_ok 3 rfl) rfl (by decide) rfl ?_
  refine go_callV (n2 := 0) (q := 11) kX10_491 (ctX1_copyFrom (o := 36) (o2 := 1) gD_36 gD_1 (by decide) (by decide) (by decide)) (gDec iX10_save_ok 4 rfl) rfl rfl (by decide) rfl rfl rfl (Nat.le_of_ble_eq_true rfl) rfl (gFit_rm (by decide) (by decide)) rfl ?_
  refine go_aload_n (q := 12) (gDec iX10_save_ok 5 rfl) rfl rfl rfl ?_
  refine go_iconst (v := 1) (q := 13) (gDec iX10_save_ok 6 rfl) (by decide) rfl ?_
  refine go_puti (q := 16) fX10_47 gft10 (gDec iX10_save_ok 7 rfl) rfl (by decide) rfl rfl rfl rfl ?_
  exact go_return (gDec iX10_save_ok 8 rfl) rfl rfl rfl (by decide)

set_option maxHeartbeats 4000000 in
set_option maxRecDepth 100000 in
theorem ctX10_restore {κ : gK} {σ : gST}  : gCt κ mX10_restore 9 [.ref (κ.2.1 + 0)] σ (fRestore σ).1 (fRestore σ).2 1 := by
  refine ct_of (by decide +kernel) rfl (Nat.le_of_ble_eq_true rfl) rfl ?_
  by_cases h1 : σ.1 0 6 = 0
  · rw [show fRestore σ = _ from if_pos h1]
    refine go_aload_n (q := 1) (gDec iX10_restore_ok 0 rfl) rfl rfl rfl ?_
    refine go_geti (q := 4) fX10_47 (gDec iX10_restore_ok 1 rfl) rfl (by decide) rfl ?_
    refine go_if_ne (t := 18) (q := 7) (gDec iX10_restore_ok 2 rfl) (by decide) rfl (fun c4 => False.elim (c4 h1)) (fun c4 => ?_)
    exact go_throwW th_IllegalStateException (List.mem_of_getElem? (i := 40) rfl) rfl rfl (gDec iX10_restore_ok 3 rfl) (gDec iX10_restore_ok 4 rfl) (gDec iX10_restore_ok 5 rfl) (gDec iX10_restore_ok 6 rfl) (gDec iX10_restore_ok 7 rfl) (by decide) (by decide)
  · rw [show fRestore σ = _ from if_neg h1]
    refine go_aload_n (q := 1) (gDec iX10_restore_ok 0 rfl) rfl rfl rfl ?_
    refine go_geti (q := 4) fX10_47 (gDec iX10_restore_ok 1 rfl) rfl (by decide) rfl ?_
    refine go_if_ne (t := 18) (q := 7) (gDec iX10_restore_ok 2 rfl) (by decide) rfl (fun c4 => ?_) (fun c4 => False.elim (h1 c4))
    refine go_aload_n (q := 19) (gDec iX10_restore_ok 8 rfl) rfl rfl rfl ?_
    refine go_getr (r' := 1) (q := 22) fX10_10 (gDec iX10_restore_ok 9 rfl) rfl (by decide) rfl ?_
    refine go_aload_n (q := 23) (gDec iX10_restore_ok 10 rfl) rfl rfl rfl ?_
    refine go_getr (r' := 36) (q := 26) fX10_16 (gDec iX10_restore_ok 11 rfl) rfl (by decide) rfl ?_
    refine go_callV (n2 := 0) (q := 29) kX10_491 (ctX1_copyFrom (o := 1) (o2 := 36) gD_1 gD_36 (by decide) (by decide) (by decide)) (gDec iX10_restore_ok 12 rfl) rfl rfl (by decide) rfl rfl rfl (Nat.le_of_ble_eq_true rfl) rfl (gFit_rm (by decide) (by decide)) rfl ?_
    refine go_aload_n (q := 30) (gDec iX10_restore_ok 13 rfl) rfl rfl rfl ?_
    refine go_getr (r' := 71) (q := 33) fX10_22 (gDec iX10_restore_ok 14 rfl) rfl (by decide) rfl ?_
    refine go_callV (n2 := 0) (q := 36) kX10_496 ctX3_forget (gDec iX10_restore_ok 15 rfl) rfl rfl (by decide) rfl rfl rfl (Nat.le_of_ble_eq_true rfl) rfl (gFit_rm (by decide) (by decide)) rfl ?_
    refine go_aload_n (q := 37) (gDec iX10_restore_ok 16 rfl) rfl rfl rfl ?_
    refine go_getr (r' := 363) (q := 40) fX10_43 (gDec iX10_restore_ok 17 rfl) rfl (by decide) rfl ?_
    refine go_callV (n2 := 0) (q := 43) kX10_488 ctX6_forget (gDec iX10_restore_ok 18 rfl) rfl rfl (by decide) rfl rfl rfl (Nat.le_of_ble_eq_true rfl) rfl (gFit_rm (by decide) (by decide)) rfl ?_
    exact go_return (gDec iX10_restore_ok 19 rfl) rfl rfl rfl (by decide)
