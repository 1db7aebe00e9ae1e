theorem i_ring1 (a b x : Int32) : a + x = b + x + (a - b) := by grind
theorem i_ring2 (a x d : Int32) : a + (x + d) = a + x + d := by grind
theorem sM_upd {f g : Nat → Int32} {k0 : Nat} : ∀ (m i : Nat), (∀ k, i ≤ k → k < i + m → k ≠ k0 → g k = f k) → i ≤ k0 → k0 < i + m → sM g i m = sM f i m + (g k0 - f k0)
  | 0, i, _, h1, h2 => by omega
  | m + 1, i, h, h1, h2 => by
    rw [sM_s, sM_s]
    by_cases hk : k0 = i
    · subst hk
      have h3 : sM g (k0 + 1) m = sM f (k0 + 1) m := gLoop_congr _ _ _ (fun k q1 q2 b => by rw [h k (by omega) (by omega) (by omega)])
      rw [h3]
      exact i_ring1 _ _ _
    · rw [h i (Nat.le_refl _) (by omega) (fun h9 => hk h9.symm), sM_upd m (i + 1) (fun k q1 q2 => h k (by omega) (by omega)) (by omega) (by omega)]
      exact i_ring2 _ _ _
def cK (f : Nat → Int32) (k : Nat) : Int32 := if f k = 301 then 0 else 1
theorem i301 {v : Int32} (h : -300 ≤ v.toInt ∧ v.toInt ≤ 300) : ¬ v = 301 := fun h9 => by
  rw [h9] at h
  exact absurd h.2 (by decide)

theorem mt_kernClasses {ρ : gST} {s : Nat → Int32} {i j : Nat} {v : Int32} (hC : gCI ρ) (hM : gMR ρ s) (hi : i < 6) (hj : j < 6) (hv : -300 ≤ v.toInt ∧ v.toInt ≤ 300) : gCI (gTlC ρ i j v) ∧ gMR (gTlC ρ i j v) (upd (upd s (4 + 6 * i + j) 1) (40 + 6 * i + j) v) := by
  obtain ⟨τ', hτ⟩ : ∃ τ', τ' = gTlC ρ i j v := ⟨_, rfl⟩
  have ho : ∀ k, k ≠ 20 → k ≠ 26 → τ'.1 k = ρ.1 k := fun k q1 q2 => by
    rw [hτ]
    unfold gTlC
    rw [gPut_ne _ _ _ q2]
    split
    · exact gPut_ne _ _ _ q1
    · rfl
  have e26 : ∀ a, τ'.1 26 a = if a = (i * 6 + j) then v else ρ.1 26 a := fun a => by
    rw [hτ]
    unfold gTlC
    rw [gPut_s, uN]
    split
    · rfl
    · split
      · rw [gPut_ne _ _ _ (by decide)]
      · rfl
  have e205 : τ'.1 20 5 = ρ.1 20 5 := by
    rw [hτ]
    unfold gTlC
    rw [gPut_ne _ _ _ (by decide)]
    split
    · rw [gPut_at, if_neg (by omega)]
    · rfl
  have e204 : τ'.1 20 4 = ρ.1 20 4 + (1 - cK (ρ.1 26) (i * 6 + j)) := by
    rw [hτ]
    unfold gTlC cK
    rw [gPut_ne _ _ _ (by decide)]
    split
    · rw [gPut_at, if_pos ⟨rfl, rfl⟩]; simp
    · simp
  rw [← hτ]
  have hK := hC.kw
  have hn := i301 hv
  refine ⟨hC.hdr (fun k _ _ q2 q3 _ => ho k q2 q3) ⟨fun k hk => ?_, ?_, ?_, ?_, ?_⟩, hM.hdr hC.dw (fun k _ _ q2 q3 _ => ho k q2 q3) (fun x hx => by rw [uN, if_neg (by omega), uN, if_neg (by omega)]) (by rw [uN, if_neg (by omega), uN, if_neg (by omega)]) ⟨?_, ?_, ?_⟩ (fun k hk => ?_) ?_⟩
  · rw [e26]
    split
    · exact Or.inr hv
    · exact hK.1 k hk
  · rw [ho 28 (by decide) (by decide)]; exact hK.2.1
  · rw [e204, hK.2.2.1]
    show sM (cK (ρ.1 26)) 0 36 + _ = sM (cK (τ'.1 26)) 0 36
    rw [sM_upd (f := cK (ρ.1 26)) (g := cK (τ'.1 26)) (k0 := (i * 6 + j)) 36 0 (fun k _ _ q => by unfold cK; rw [e26, if_neg q]) (by omega) (by omega)]
    rw [show cK (τ'.1 26) (i * 6 + j) = 1 from by unfold cK; rw [e26, if_pos rfl, if_neg hn]]
  · rw [e205]; exact hK.2.2.2.1
  · rw [ho 1 (by decide) (by decide)]; exact hK.2.2.2.2
  · rw [uN, if_neg (by omega), uN, if_neg (by omega), ho 1 (by decide) (by decide)]; exact hM.1.2.1
  · rw [uN, if_neg (by omega), uN, if_neg (by omega), ho 1 (by decide) (by decide)]; exact hM.1.2.2.1
  · rw [uN, if_neg (by omega), uN, if_neg (by omega), e205]; exact hM.pn
  · rw [e26]
    by_cases hk0 : k = (i * 6 + j)
    · rw [if_pos hk0, if_neg hn, uN, if_neg (by omega), uN, if_pos (by omega)]
      refine ⟨rfl, fun _ => ?_⟩
      rw [uN, if_pos (by omega)]
    · rw [if_neg hk0]
      have h1 : upd (upd s (4 + 6 * i + j) 1) (40 + 6 * i + j) v (4 + k) = s (4 + k) := by rw [uN, if_neg (by omega), uN, if_neg (by omega)]
      have h2 : upd (upd s (4 + 6 * i + j) 1) (40 + 6 * i + j) v (40 + k) = s (40 + k) := by rw [uN, if_neg (by omega), uN, if_neg (by omega)]
      rw [h1, h2]
      exact hM.2.1 k hk
  · exact hM.mp.c e205 (ho 28 (by decide) (by decide)) (fun x q1 q2 => by rw [uN, if_neg (by omega), uN, if_neg (by omega)])

set_option maxHeartbeats 4000000 in
set_option maxRecDepth 100000 in
theorem okw_kernClasses {κ : gK} {σ τ : gST} {i j : Nat} {v : Int32} (h : gAll τ σ) (hi : i < 6) (hj : j < 6) (hv : -300 ≤ v.toInt ∧ v.toInt ≤ 300) : gCt κ mX11_kernClasses 9 [.ref (κ.2.1 + 376), .int (nI i), .int (nI j), .int v] σ (rI ((gTlC (gRem τ) i j v).1 20 4)) (gPut (gPut (gChg (gPut σ 376 5 0) (nA (τ.1 71 2))) 377 (4 + 6 * i + j) 1) 377 (40 + 6 * i + j) v) 0 := by
  have hm := mt_kernClasses (gRem_ci h.ci) (gRem_mr h.ci h.mr) hi hj hv
  have hk : gLoop (fun k a => a + (if (gTlC (gRem τ) i j v).1 26 k = 301 then 0 else 1)) 0 36 0 = (gTlC (gRem τ) i j v).1 20 4 := hm.1.kw.2.2.1.symm
  refine ct_of (by decide +kernel) rfl (Nat.le_of_ble_eq_true rfl) rfl ?_
  refine go_aload_n (q := 1) (gDec iX11_kernClasses_ok 0 rfl) rfl rfl rfl ?_
  refine go_iload_n (q := 2) (gDec iX11_kernClasses_ok 1 rfl) rfl rfl rfl ?_
  refine go_callS (n2 := 0) (q := 5) kX11_153 ctX11_isClass (gDec iX11_kernClasses_ok 2 rfl) rfl rfl (Nat.le_of_ble_eq_true rfl) rfl (gFit_rm (by decide) (by decide)) rfl ?_
  refine go_top (v' := 1) (gWi_t (by rw [nI_toInt (by omega)]; omega)) ?_
  refine go_if_eq (t := 15) (q := 8) (gDec iX11_kernClasses_ok 3 rfl) (by decide) rfl (fun c5 => False.elim (absurd c5 (by decide))) (fun c5 => ?_)
  refine go_iload_n (q := 9) (gDec iX11_kernClasses_ok 4 rfl) rfl rfl rfl ?_
  refine go_callS (n2 := 0) (q := 12) kX11_153 ctX11_isClass (gDec iX11_kernClasses_ok 5 rfl) rfl rfl (Nat.le_of_ble_eq_true rfl) rfl (gFit_rm (by decide) (by decide)) rfl ?_
  refine go_top (v' := 1) (gWi_t (by rw [nI_toInt (by omega)]; omega)) ?_
  refine go_if_ne (t := 19) (q := 15) (gDec iX11_kernClasses_ok 6 rfl) (by decide) rfl (fun c12 => ?_) (fun c12 => False.elim (absurd c12 (by decide)))
  refine go_iload_n (q := 20) (gDec iX11_kernClasses_ok 9 rfl) rfl rfl rfl ?_
  refine go_callS (n2 := 0) (q := 23) kX11_156 ctX11_isKern (gDec iX11_kernClasses_ok 10 rfl) rfl rfl (Nat.le_of_ble_eq_true rfl) rfl (gFit_rm (by decide) (by decide)) rfl ?_
  refine go_top (v' := 1) (gWi_t (by (try rw [i2l_toInt]); exact hv)) ?_
  refine go_if_ne (t := 30) (q := 26) (gDec iX11_kernClasses_ok 11 rfl) (by decide) rfl (fun c23 => ?_) (fun c23 => False.elim (absurd c23 (by decide)))
  refine go_iconst (v := nI 0) (q := 31) (gDec iX11_kernClasses_ok 14 rfl) (by decide) rfl ?_
  refine go_puti (q := 34) fX11_54 gft11 (gDec iX11_kernClasses_ok 15 rfl) rfl (by decide) rfl rfl rfl rfl ?_
  refine go_aload_n (q := 35) (gDec iX11_kernClasses_ok 16 rfl) rfl rfl rfl ?_
  refine go_geti (q := 38) fX11_54 (gDec iX11_kernClasses_ok 17 rfl) rfl (by decide) rfl ?_
  refine go_top (v' := nI 0) rfl ?_
  refine go_if_le (t := 43) (q := 41) (gDec iX11_kernClasses_ok 18 rfl) (by decide) rfl (fun c38 => ?_) (fun c38 => False.elim (c38 (by decide)))
  refine go_aload_n (q := 44) (gDec iX11_kernClasses_ok 21 rfl) rfl rfl rfl ?_
  refine go_callV (n2 := 0) (q := 47) kX11_89 (ctX11_change (n := (nA (τ.1 71 2))) h.hr.1 h.n8) (gDec iX11_kernClasses_ok 22 rfl) rfl rfl (by decide) rfl rfl rfl (Nat.le_of_ble_eq_true rfl) rfl (gFit_rm (by decide) (by decide)) rfl ?_
  refine go_w (show _ = gChg (gPut σ 376 5 0) (nA (τ.1 71 2)) from rfl) ?_
  refine go_aload_n (q := 48) (gDec iX11_kernClasses_ok 23 rfl) rfl rfl rfl ?_
  refine go_getr (r' := 377) (q := 51) fX11_9 (gDec iX11_kernClasses_ok 24 rfl) rfl (by decide) rfl ?_
  refine go_iconst (v := nI 4) (q := 52) (gDec iX11_kernClasses_ok 25 rfl) (by decide) rfl ?_
  refine go_bipush (v := nI 6) (q := 54) (gDec iX11_kernClasses_ok 26 rfl) (by decide) rfl ?_
  refine go_iload_n (q := 55) (gDec iX11_kernClasses_ok 27 rfl) rfl rfl rfl ?_
  refine go_imulN (c := 6 * i) (q := 56) (gDec iX11_kernClasses_ok 28 rfl) rfl rfl ?_
  refine go_iaddN (c := 4 + (6 * i)) (q := 57) (gDec iX11_kernClasses_ok 29 rfl) rfl rfl ?_
  refine go_iload_n (q := 58) (gDec iX11_kernClasses_ok 30 rfl) rfl rfl rfl ?_
  refine go_iaddN (c := 4 + (6 * i) + j) (q := 59) (gDec iX11_kernClasses_ok 31 rfl) rfl rfl ?_
  refine go_iconst (v := 1) (q := 60) (gDec iX11_kernClasses_ok 32 rfl) (by decide) rfl ?_
  refine go_iastN (q := 61) (gDec iX11_kernClasses_ok 33 rfl) rfl (by decide) (by omega) (by decide) rfl ?_
  refine go_aload_n (q := 62) (gDec iX11_kernClasses_ok 34 rfl) rfl rfl rfl ?_
  refine go_getr (r' := 377) (q := 65) fX11_9 (gDec iX11_kernClasses_ok 35 rfl) rfl (by decide) rfl ?_
  refine go_bipush (v := nI 40) (q := 67) (gDec iX11_kernClasses_ok 36 rfl) (by decide) rfl ?_
  refine go_bipush (v := nI 6) (q := 69) (gDec iX11_kernClasses_ok 37 rfl) (by decide) rfl ?_
  refine go_iload_n (q := 70) (gDec iX11_kernClasses_ok 38 rfl) rfl rfl rfl ?_
  refine go_imulN (c := 6 * i) (q := 71) (gDec iX11_kernClasses_ok 39 rfl) rfl rfl ?_
  refine go_iaddN (c := 40 + (6 * i)) (q := 72) (gDec iX11_kernClasses_ok 40 rfl) rfl rfl ?_
  refine go_iload_n (q := 73) (gDec iX11_kernClasses_ok 41 rfl) rfl rfl rfl ?_
  refine go_iaddN (c := 40 + (6 * i) + j) (q := 74) (gDec iX11_kernClasses_ok 42 rfl) rfl rfl ?_
  refine go_iload_n (q := 75) (gDec iX11_kernClasses_ok 43 rfl) rfl rfl rfl ?_
  refine go_iastN (q := 76) (gDec iX11_kernClasses_ok 44 rfl) rfl (by decide) (by omega) (by decide) rfl ?_
  refine go_aload_n (q := 77) (gDec iX11_kernClasses_ok 45 rfl) rfl rfl rfl ?_
  refine go_callV (n2 := 0) (q := 80) kX11_159 (ctX11_classKerns (τ := (gTlC (gRem τ) i j v)) hm.2) (gDec iX11_kernClasses_ok 46 rfl) rfl rfl (by decide) rfl rfl rfl (Nat.le_of_ble_eq_true rfl) rfl (gFit_rm (by decide) (by decide)) rfl ?_
  refine go_top (v' := (gTlC (gRem τ) i j v).1 20 4) (hk) ?_
  exact go_ireturn (gDec iX11_kernClasses_ok 47 rfl) rfl rfl rfl rfl (by decide)

set_option maxHeartbeats 4000000 in
set_option maxRecDepth 100000 in
theorem ok_kernClasses {κ : gK} {σ τ : gST} {a b v : Int32} (h : gAll τ σ) : gOK κ mX11_kernClasses [.ref (κ.2.1 + 376), .int a, .int b, .int v] σ (rI (aI (fKernClasses τ a b v).1)) kOA (fKernClasses τ a b v) := by
  have hC := h.ci
  have hM := h.mr
  have hW := hC.dw
  have h24 := hW.ng24
  by_cases h1 : gInt2 5 a b
  · by_cases h2 : -300 ≤ v.toInt ∧ v.toInt ≤ 300
    · have hs : fKernClasses τ a b v = _ := (if_pos h1).trans (if_pos h2)
      rw [hs]
      obtain ⟨i, j, hi, hj, rfl, rfl⟩ := gInt2.ex (n := 5) h1
      rw [nA_nI (n := i) (by omega), nA_nI (n := j) (by omega)]
      have ho : ∀ k, k ≠ 20 → k ≠ 26 → (gTlC (gRem τ) i j v).1 k = (gRem τ).1 k := fun k q1 q2 => by
        unfold gTlC
        rw [gPut_ne _ _ _ q2]
        split
        · exact gPut_ne _ _ _ q1
        · rfl
      refine gOK.ch h (okw_kernClasses h (by omega) (by omega) h2) (mt_kernClasses (gRem_ci hC) (gRem_mr hC hM) (by omega) (by omega) h2) (fun k hk => ho k (by omega) (by omega)) ?_ (fun k hk => by rw [gPut_ne _ _ _ hk, gPut_ne _ _ _ hk]) rfl
      have e : gNg (gTlC (gRem τ) i j v) = gNg (gRem τ) := by unfold gNg; rw [ho 2 (by decide) (by decide)]
      rw [e, gRem_ng]
      exact Nat.le_refl _
    · have hs : fKernClasses τ a b v = _ := (if_pos h1).trans (if_neg h2)
      rw [hs]
      refine gOK.rd h rfl ?_
      refine ct_of (by decide +kernel) rfl (Nat.le_of_ble_eq_true rfl) rfl ?_
      refine go_aload_n (q := 1) (gDec iX11_kernClasses_ok 0 rfl) rfl rfl rfl ?_
      refine go_iload_n (q := 2) (gDec iX11_kernClasses_ok 1 rfl) rfl rfl rfl ?_
      refine go_callS (n2 := 0) (q := 5) kX11_153 ctX11_isClass (gDec iX11_kernClasses_ok 2 rfl) rfl rfl (Nat.le_of_ble_eq_true rfl) rfl (gFit_rm (by decide) (by decide)) rfl ?_
      refine go_top (v' := 1) (gWi_t (by (try rw [i2l_toInt]); exact h1.1)) ?_
      refine go_if_eq (t := 15) (q := 8) (gDec iX11_kernClasses_ok 3 rfl) (by decide) rfl (fun c5 => False.elim (absurd c5 (by decide))) (fun c5 => ?_)
      refine go_iload_n (q := 9) (gDec iX11_kernClasses_ok 4 rfl) rfl rfl rfl ?_
      refine go_callS (n2 := 0) (q := 12) kX11_153 ctX11_isClass (gDec iX11_kernClasses_ok 5 rfl) rfl rfl (Nat.le_of_ble_eq_true rfl) rfl (gFit_rm (by decide) (by decide)) rfl ?_
      refine go_top (v' := 1) (gWi_t (by (try rw [i2l_toInt]); exact h1.2)) ?_
      refine go_if_ne (t := 19) (q := 15) (gDec iX11_kernClasses_ok 6 rfl) (by decide) rfl (fun c12 => ?_) (fun c12 => False.elim (absurd c12 (by decide)))
      refine go_iload_n (q := 20) (gDec iX11_kernClasses_ok 9 rfl) rfl rfl rfl ?_
      refine go_callS (n2 := 0) (q := 23) kX11_156 ctX11_isKern (gDec iX11_kernClasses_ok 10 rfl) rfl rfl (Nat.le_of_ble_eq_true rfl) rfl (gFit_rm (by decide) (by decide)) rfl ?_
      refine go_top (v' := 0) (gWi_f (by (try rw [i2l_toInt]); exact h2)) ?_
      refine go_if_ne (t := 30) (q := 26) (gDec iX11_kernClasses_ok 11 rfl) (by decide) rfl (fun c23 => False.elim (c23 rfl)) (fun c23 => ?_)
      refine go_iconst (v := nI 2) (q := 27) (gDec iX11_kernClasses_ok 12 rfl) (by decide) rfl ?_
      refine go_goto (t := 31) (gDec iX11_kernClasses_ok 13 rfl) (by decide) ?_
      refine go_puti (q := 34) fX11_54 gft11 (gDec iX11_kernClasses_ok 15 rfl) rfl (by decide) rfl rfl rfl rfl ?_
      refine go_aload_n (q := 35) (gDec iX11_kernClasses_ok 16 rfl) rfl rfl rfl ?_
      refine go_geti (q := 38) fX11_54 (gDec iX11_kernClasses_ok 17 rfl) rfl (by decide) rfl ?_
      refine go_top (v' := nI 2) rfl ?_
      refine go_if_le (t := 43) (q := 41) (gDec iX11_kernClasses_ok 18 rfl) (by decide) rfl (fun c38 => False.elim (absurd c38 (by decide))) (fun c38 => ?_)
      refine go_iconst (v := nI 0) (q := 42) (gDec iX11_kernClasses_ok 19 rfl) (by decide) rfl ?_
      exact go_ireturn (gDec iX11_kernClasses_ok 20 rfl) rfl rfl rfl (congrArg (gPut σ 376 5) xc_OA_A) (by decide)
  · have hs : fKernClasses τ a b v = _ := if_neg h1
    rw [hs]
    refine gOK.rd h rfl ?_
    refine ct_of (by decide +kernel) rfl (Nat.le_of_ble_eq_true rfl) rfl ?_
    by_cases h3 : 0 ≤ a.toInt ∧ a.toInt ≤ 5
    · have h4 : ¬ (0 ≤ b.toInt ∧ b.toInt ≤ 5) := fun h9 => h1 ⟨h3, h9⟩
      refine go_aload_n (q := 1) (gDec iX11_kernClasses_ok 0 rfl) rfl rfl rfl ?_
      refine go_iload_n (q := 2) (gDec iX11_kernClasses_ok 1 rfl) rfl rfl rfl ?_
      refine go_callS (n2 := 0) (q := 5) kX11_153 ctX11_isClass (gDec iX11_kernClasses_ok 2 rfl) rfl rfl (Nat.le_of_ble_eq_true rfl) rfl (gFit_rm (by decide) (by decide)) rfl ?_
      refine go_top (v' := 1) (gWi_t (by (try rw [i2l_toInt]); exact h3)) ?_
      refine go_if_eq (t := 15) (q := 8) (gDec iX11_kernClasses_ok 3 rfl) (by decide) rfl (fun c5 => False.elim (absurd c5 (by decide))) (fun c5 => ?_)
      refine go_iload_n (q := 9) (gDec iX11_kernClasses_ok 4 rfl) rfl rfl rfl ?_
      refine go_callS (n2 := 0) (q := 12) kX11_153 ctX11_isClass (gDec iX11_kernClasses_ok 5 rfl) rfl rfl (Nat.le_of_ble_eq_true rfl) rfl (gFit_rm (by decide) (by decide)) rfl ?_
      refine go_top (v' := 0) (gWi_f (by (try rw [i2l_toInt]); exact h4)) ?_
      refine go_if_ne (t := 19) (q := 15) (gDec iX11_kernClasses_ok 6 rfl) (by decide) rfl (fun c12 => False.elim (c12 rfl)) (fun c12 => ?_)
      refine go_iconst (v := nI 1) (q := 16) (gDec iX11_kernClasses_ok 7 rfl) (by decide) rfl ?_
      refine go_goto (t := 31) (gDec iX11_kernClasses_ok 8 rfl) (by decide) ?_
      refine go_puti (q := 34) fX11_54 gft11 (gDec iX11_kernClasses_ok 15 rfl) rfl (by decide) rfl rfl rfl rfl ?_
      refine go_aload_n (q := 35) (gDec iX11_kernClasses_ok 16 rfl) rfl rfl rfl ?_
      refine go_geti (q := 38) fX11_54 (gDec iX11_kernClasses_ok 17 rfl) rfl (by decide) rfl ?_
      refine go_top (v' := nI 1) rfl ?_
      refine go_if_le (t := 43) (q := 41) (gDec iX11_kernClasses_ok 18 rfl) (by decide) rfl (fun c38 => False.elim (absurd c38 (by decide))) (fun c38 => ?_)
      refine go_iconst (v := nI 0) (q := 42) (gDec iX11_kernClasses_ok 19 rfl) (by decide) rfl ?_
      exact go_ireturn (gDec iX11_kernClasses_ok 20 rfl) rfl rfl rfl (congrArg (gPut σ 376 5) xc_OA_O) (by decide)
    · skip
      refine go_aload_n (q := 1) (gDec iX11_kernClasses_ok 0 rfl) rfl rfl rfl ?_
      refine go_iload_n (q := 2) (gDec iX11_kernClasses_ok 1 rfl) rfl rfl rfl ?_
      refine go_callS (n2 := 0) (q := 5) kX11_153 ctX11_isClass (gDec iX11_kernClasses_ok 2 rfl) rfl rfl (Nat.le_of_ble_eq_true rfl) rfl (gFit_rm (by decide) (by decide)) rfl ?_
      refine go_top (v' := 0) (gWi_f (by (try rw [i2l_toInt]); exact h3)) ?_
      refine go_if_eq (t := 15) (q := 8) (gDec iX11_kernClasses_ok 3 rfl) (by decide) rfl (fun c5 => ?_) (fun c5 => False.elim (c5 rfl))
      refine go_iconst (v := nI 1) (q := 16) (gDec iX11_kernClasses_ok 7 rfl) (by decide) rfl ?_
      refine go_goto (t := 31) (gDec iX11_kernClasses_ok 8 rfl) (by decide) ?_
      refine go_puti (q := 34) fX11_54 gft11 (gDec iX11_kernClasses_ok 15 rfl) rfl (by decide) rfl rfl rfl rfl ?_
      refine go_aload_n (q := 35) (gDec iX11_kernClasses_ok 16 rfl) rfl rfl rfl ?_
      refine go_geti (q := 38) fX11_54 (gDec iX11_kernClasses_ok 17 rfl) rfl (by decide) rfl ?_
      refine go_top (v' := nI 1) rfl ?_
      refine go_if_le (t := 43) (q := 41) (gDec iX11_kernClasses_ok 18 rfl) (by decide) rfl (fun c38 => False.elim (absurd c38 (by decide))) (fun c38 => ?_)
      refine go_iconst (v := nI 0) (q := 42) (gDec iX11_kernClasses_ok 19 rfl) (by decide) rfl ?_
      exact go_ireturn (gDec iX11_kernClasses_ok 20 rfl) rfl rfl rfl (congrArg (gPut σ 376 5) xc_OA_O) (by decide)

theorem gMP.bnd {τ : gST} {s : Nat → Int32} (h : gMP τ s) : nA (τ.1 20 5) ≤ 40 := h.n40
theorem mt_pairNew {ρ : gST} {s : Nat → Int32} {i j : Nat} {v : Int32} (hC : gCI ρ) (hM : gMR ρ s) (hi : i < 24) (hj : j < 24) (hv : -300 ≤ v.toInt ∧ v.toInt ≤ 300) (h0 : ρ.1 28 (i * 24 + j) = 301) (hn : nA (ρ.1 20 5) < 40) :
    gCI (gTlP ρ i j v) ∧ gMR (gTlP ρ i j v) (upd (upd (upd (upd s (76 + 3 * nA (ρ.1 20 5)) (nI i)) (76 + 3 * nA (ρ.1 20 5) + 1) (nI j)) 3 (nI (nA (ρ.1 20 5) + 1))) (76 + 3 * nA (ρ.1 20 5) + 2) v) ∧ (gTlP ρ i j v).1 20 5 = nI (nA (ρ.1 20 5) + 1) := by
  obtain ⟨τ', hτ⟩ : ∃ τ', τ' = gTlP ρ i j v := ⟨_, rfl⟩
  have hK := hC.kw
  have hr := nA_n hK.2.2.2.1.1
  obtain ⟨n, hnn⟩ : ∃ n, n = nA (ρ.1 20 5) := ⟨_, rfl⟩
  have hu : gTlP ρ i j v = gPut (gPut ρ 20 5 (ρ.1 20 5 + 1)) 28 (i * 24 + j) v := by unfold gTlP; rw [if_pos h0]
  have ho : ∀ k, k ≠ 20 → k ≠ 28 → τ'.1 k = ρ.1 k := fun k q1 q2 => by rw [hτ, hu, gPut_ne _ _ _ q2, gPut_ne _ _ _ q1]
  have e28 : ∀ a, τ'.1 28 a = if a = (i * 24 + j) then v else ρ.1 28 a := fun a => by rw [hτ, hu, gPut_s, uN, gPut_ne _ _ _ (by decide)]
  have e204 : τ'.1 20 4 = ρ.1 20 4 := by rw [hτ, hu, gPut_ne _ _ _ (by decide), gPut_at, if_neg (by omega)]
  have e205 : τ'.1 20 5 = nI (n + 1) := by rw [hτ, hu, gPut_ne _ _ _ (by decide), gPut_at, if_pos ⟨rfl, rfl⟩, hr, ← hnn, nI_1]
  have en : nA (τ'.1 20 5) = n + 1 := by rw [e205]; exact nA_nI (by omega)
  rw [← hτ, ← hnn]
  rw [← hnn] at hn
  have hv3 := i301 hv
  obtain ⟨pr, c0, c1, c2, c3⟩ := hM.mp
  rw [← hnn] at c0 c1 c2 c3
  have u : ∀ x, ¬ (76 + 3 * n ≤ x ∧ x < 76 + 3 * n + 3) → x ≠ 3 → (upd (upd (upd (upd s (76 + 3 * n) (nI i)) (76 + 3 * n + 1) (nI j)) 3 (nI (n + 1))) (76 + 3 * n + 2) v) x = s x := fun x q1 q2 => by rw [uN, if_neg (by omega), uN, if_neg (by omega), uN, if_neg (by omega), uN, if_neg (by omega)]
  refine ⟨hC.hdr (fun k _ _ q2 _ q4 => ho k q2 q4) ⟨?_, fun k hk => ?_, ?_, ?_, ?_⟩, hM.hdr hC.dw (fun k _ _ q2 _ q4 => ho k q2 q4) (fun x hx => u x (by omega) (by omega)) (u 0 (by omega) (by decide)) ⟨?_, ?_, ?_⟩ (fun k hk => ?_) ⟨fun k => if k = n then (i * 24 + j) else pr k, ?_, ?_, ?_, ?_⟩, e205⟩
  · rw [ho 26 (by decide) (by decide)]; exact hK.1
  · rw [e28]
    split
    · exact Or.inr hv
    · exact hK.2.1 k hk
  · rw [e204, ho 26 (by decide) (by decide)]; exact hK.2.2.1
  · rw [e205, nI_toInt (by omega)]; omega
  · rw [ho 1 (by decide) (by decide)]; exact hK.2.2.2.2
  · rw [u 1 (by omega) (by decide), ho 1 (by decide) (by decide)]; exact hM.1.2.1
  · rw [u 2 (by omega) (by decide), ho 1 (by decide) (by decide)]; exact hM.1.2.2.1
  · rw [en, uN, if_neg (by omega), uN, if_pos rfl]
  · rw [u _ (by omega) (by omega), u _ (by omega) (by omega), ho 26 (by decide) (by decide)]; exact hM.2.1 k hk
  · rw [en]; omega
  · rw [en]
    intro k hk
    by_cases hkn : k = n
    · subst hkn
      simp only [if_true]
      refine ⟨by omega, ?_, ?_, ?_, ?_⟩
      · rw [uN, if_neg (by omega), uN, if_neg (by omega), uN, if_neg (by omega), uN, if_pos rfl, show (i * 24 + j) / 24 = i by omega]
      · rw [uN, if_neg (by omega), uN, if_neg (by omega), uN, if_pos rfl, show (i * 24 + j) % 24 = j by omega]
      · rw [uN, if_pos rfl, e28, if_pos rfl]
      · rw [e28, if_pos rfl]; exact hv3
    · simp only [hkn, if_false]
      obtain ⟨d1, d2, d3, d4, d5⟩ := c1 k (by omega)
      have hne : ¬ pr k = (i * 24 + j) := fun h9 => d5 (by rw [h9]; exact h0)
      rw [u _ (by omega) (by omega), u _ (by omega) (by omega), u _ (by omega) (by omega), e28, if_neg hne]
      exact ⟨d1, d2, d3, d4, d5⟩
  · rw [en]
    intro x hx hxn
    rw [e28] at hxn
    by_cases hx0 : x = (i * 24 + j)
    · exact ⟨n, by omega, (if_pos rfl).trans hx0.symm⟩
    · rw [if_neg hx0] at hxn
      obtain ⟨k, hk, hke⟩ := c2 x hx hxn
      exact ⟨k, by omega, (if_neg (by omega)).trans hke⟩
  · rw [en]
    intro k l hk hl hkl
    dsimp only at hkl
    by_cases hkn : k = n
    · by_cases hln : l = n
      · omega
      · rw [if_pos hkn, if_neg hln] at hkl
        exact absurd h0 (by rw [hkl]; exact (c1 l (by omega)).2.2.2.2)
    · by_cases hln : l = n
      · rw [if_neg hkn, if_pos hln] at hkl
        exact absurd h0 (by rw [← hkl]; exact (c1 k (by omega)).2.2.2.2)
      · rw [if_neg hkn, if_neg hln] at hkl
        exact c3 k l (by omega) (by omega) hkl
theorem mt_pairOld {ρ : gST} {s : Nat → Int32} {i j k : Nat} {v : Int32} (hC : gCI ρ) (hM : gMR ρ s) (hi : i < 24) (hj : j < 24) (hv : -300 ≤ v.toInt ∧ v.toInt ≤ 300) (h0 : ¬ ρ.1 28 (i * 24 + j) = 301) (hk : k < nA (ρ.1 20 5)) (hs1 : s (76 + 3 * k) = nI i) (hs2 : s (76 + 3 * k + 1) = nI j) :
    gCI (gTlP ρ i j v) ∧ gMR (gTlP ρ i j v) (upd s (76 + 3 * k + 2) v) ∧ (gTlP ρ i j v).1 20 5 = nI (nA (ρ.1 20 5)) := by
  obtain ⟨τ', hτ⟩ : ∃ τ', τ' = gTlP ρ i j v := ⟨_, rfl⟩
  have hK := hC.kw
  have hr := nA_n hK.2.2.2.1.1
  have hu : gTlP ρ i j v = gPut ρ 28 (i * 24 + j) v := by unfold gTlP; rw [if_neg h0]
  have ho : ∀ k, k ≠ 28 → τ'.1 k = ρ.1 k := fun k q2 => by rw [hτ, hu, gPut_ne _ _ _ q2]
  have e28 : ∀ a, τ'.1 28 a = if a = (i * 24 + j) then v else ρ.1 28 a := fun a => by rw [hτ, hu, gPut_s, uN]
  have e20 : τ'.1 20 = ρ.1 20 := ho 20 (by decide)
  rw [← hτ]
  have hv3 := i301 hv
  obtain ⟨pr, c0, c1, c2, c3⟩ := hM.mp
  have hpk : pr k = (i * 24 + j) := by
    obtain ⟨d1, d2, d3, d4, d5⟩ := c1 k hk
    rw [d2] at hs1
    rw [d3] at hs2
    have q1 := (nI_eq (by omega) (by omega)).mp hs1
    have q2 := (nI_eq (by omega) (by omega)).mp hs2
    omega
  have u : ∀ x, x ≠ 76 + 3 * k + 2 → upd s (76 + 3 * k + 2) v x = s x := fun x q1 => by rw [uN, if_neg q1]
  refine ⟨hC.hdr (fun k _ _ _ _ q4 => ho k q4) ⟨?_, fun k hk => ?_, ?_, ?_, ?_⟩, hM.hdr hC.dw (fun k _ _ _ _ q4 => ho k q4) (fun x hx => u x (by omega)) (u 0 (by omega)) ⟨?_, ?_, ?_⟩ (fun k hk => ?_) ⟨pr, ?_, ?_, ?_, ?_⟩, by rw [e20]; exact hr⟩
  · rw [ho 26 (by decide)]; exact hK.1
  · rw [e28]
    split
    · exact Or.inr hv
    · exact hK.2.1 k hk
  · rw [e20, ho 26 (by decide)]; exact hK.2.2.1
  · rw [e20]; exact hK.2.2.2.1
  · rw [ho 1 (by decide)]; exact hK.2.2.2.2
  · rw [u 1 (by omega), ho 1 (by decide)]; exact hM.1.2.1
  · rw [u 2 (by omega), ho 1 (by decide)]; exact hM.1.2.2.1
  · rw [u 3 (by omega), e20]; exact hM.pn
  · rw [u _ (by omega), u _ (by omega), ho 26 (by decide)]; exact hM.2.1 k hk
  · rw [e20]; exact c0
  · rw [e20]
    intro l hl
    obtain ⟨d1, d2, d3, d4, d5⟩ := c1 l hl
    by_cases hlk : l = k
    · subst hlk
      rw [u _ (by omega), u _ (by omega), uN, if_pos rfl, e28, if_pos hpk]
      exact ⟨d1, d2, d3, rfl, hv3⟩
    · have hne : ¬ pr l = (i * 24 + j) := fun h9 => hlk (c3 l k hl hk (h9.trans hpk.symm))
      rw [u _ (by omega), u _ (by omega), u _ (by omega), e28, if_neg hne]
      exact ⟨d1, d2, d3, d4, d5⟩
  · rw [e20]
    intro x hx hxn
    rw [e28] at hxn
    by_cases hx0 : x = (i * 24 + j)
    · exact ⟨k, hk, by rw [hpk, hx0]⟩
    · rw [if_neg hx0] at hxn
      exact c2 x hx hxn
  · rw [e20]; exact c3
