/-- whether all coordinates, all counts of points fit -/
def gFp (fx fy : Nat → Int32) : Nat → Nat → Bool
  | _, 0 => true
  | i, m + 1 => if gWi (fx i).toInt (-200) 1200 = 0 then false else if gWi (fy i).toInt (-200) 1200 = 0 then false else gFp fx fy (i + 1) m
def gFc (f : Nat → Int32) : Nat → Nat → Bool
  | _, 0 => true
  | i, m + 1 => if 12 < f i then false else gFc f (i + 1) m
def gFits (σ : gST) : Int32 := if gFp (σ.1 358) (σ.1 360) 0 (nA (σ.1 356 6)) = true ∧ gFc (σ.1 362) 0 (nA (σ.1 356 5)) = true ∧ ¬ 3 < σ.1 356 5 then 1 else 0

set_option maxHeartbeats 4000000 in
set_option maxRecDepth 100000 in
theorem lpX2_fit1 {κ : gK} {σ σ' : gST} {p : Nat} {o : gO} (hp : σ.1 356 6 = nI p) (h60 : p ≤ 60) (hσ : σ' = σ) : ∀ (m i : Nat), i + m = p → (gFp (σ.1 358) (σ.1 360) i m = false → o = .inl (some (.int 0))) → (gFp (σ.1 358) (σ.1 360) i m = true → Go κ mX2_fitsIntoGlyph (gRm 1 0) (gZm κ o σ' 0) 60 [(0, .ref (κ.2.1 + 356))] [] σ 0) → Go κ mX2_fitsIntoGlyph (gRm 1 0) (gZm κ o σ' 0) 2 [(0, .ref (κ.2.1 + 356)), (1, .int (nI i))] [] σ 0 := by
  intro m
  induction m with
  | zero =>
    intro i hi ho h
    refine go_iload_n (q := 3) (gDec iX2_fitsIntoGlyph_ok 2 rfl) rfl rfl rfl ?_
    refine go_aload_n (q := 4) (gDec iX2_fitsIntoGlyph_ok 3 rfl) rfl rfl rfl ?_
    refine go_geti (q := 7) fX2_36 (gDec iX2_fitsIntoGlyph_ok 4 rfl) rfl (by decide) rfl ?_
    refine go_icmp_ge (t := 60) (q := 10) (gDec iX2_fitsIntoGlyph_ok 5 rfl) (by decide) rfl (fun c7 => ?_) (fun c7 => False.elim (c7 (by rw [hp]; exact nI_le (by omega) (by omega))))
    refine go_sub (L' := [(0, .ref (κ.2.1 + 356))]) ⟨rfl, trivial⟩ ?_
    exact h rfl
  | succ m ih =>
    intro i hi ho h
    unfold gFp at ho h
    refine go_iload_n (q := 3) (gDec iX2_fitsIntoGlyph_ok 2 rfl) rfl rfl rfl ?_
    refine go_aload_n (q := 4) (gDec iX2_fitsIntoGlyph_ok 3 rfl) rfl rfl rfl ?_
    refine go_geti (q := 7) fX2_36 (gDec iX2_fitsIntoGlyph_ok 4 rfl) rfl (by decide) rfl ?_
    refine go_icmp_ge (t := 60) (q := 10) (gDec iX2_fitsIntoGlyph_ok 5 rfl) (by decide) rfl (fun c7 => False.elim (by rw [hp] at c7; exact nI_ge (a := i) (b := p) (by omega) (by omega) c7)) (fun c7 => ?_)
    refine go_aload_n (q := 11) (gDec iX2_fitsIntoGlyph_ok 6 rfl) rfl rfl rfl ?_
    refine go_getr (r' := 357) (q := 14) fX2_14 (gDec iX2_fitsIntoGlyph_ok 7 rfl) rfl (by decide) rfl ?_
    refine go_iload_n (q := 15) (gDec iX2_fitsIntoGlyph_ok 8 rfl) rfl rfl rfl ?_
    refine go_callV (n2 := 0) (q := 18) kX2_69 (ctX7_get (a := 358) rfl rfl (by decide) (by decide) (by omega) (by decide)) (gDec iX2_fitsIntoGlyph_ok 9 rfl) rfl rfl (by decide) rfl rfl rfl (Nat.le_of_ble_eq_true rfl) rfl (gFit_rm (by decide) (by decide)) rfl ?_
    refine go_i2l (q := 19) (gDec iX2_fitsIntoGlyph_ok 10 rfl) rfl ?_
    refine go_ldc2 (q := 22) wX2_72 (gDec iX2_fitsIntoGlyph_ok 11 rfl) rfl ?_
    refine go_ldc2 (q := 25) wX2_74 (gDec iX2_fitsIntoGlyph_ok 12 rfl) rfl ?_
    refine go_callN (n2 := 0) (q := 28) kX2_76 ctX10_isWithin (gDec iX2_fitsIntoGlyph_ok 13 rfl) rfl rfl (Nat.le_of_ble_eq_true rfl) rfl (gFit_rm (by decide) (by decide)) rfl ?_
    refine go_top (v' := gWi (σ.1 358 i).toInt (-200) 1200) (by rw [i2l_toInt]; rfl) ?_
    refine go_if_eq (t := 52) (q := 31) (gDec iX2_fitsIntoGlyph_ok 14 rfl) (by decide) rfl (fun c28 => ?_) (fun c28 => ?_)
    · refine go_iconst (v := 0) (q := 53) (gDec iX2_fitsIntoGlyph_ok 24 rfl) (by decide) rfl ?_
      exact go_ireturn (gDec iX2_fitsIntoGlyph_ok 25 rfl) rfl rfl (ho (by first | rw [if_pos c28] | rw [if_neg c28, if_pos c49])) hσ (by decide)
    · refine go_aload_n (q := 32) (gDec iX2_fitsIntoGlyph_ok 15 rfl) rfl rfl rfl ?_
      refine go_getr (r' := 359) (q := 35) fX2_20 (gDec iX2_fitsIntoGlyph_ok 16 rfl) rfl (by decide) rfl ?_
      refine go_iload_n (q := 36) (gDec iX2_fitsIntoGlyph_ok 17 rfl) rfl rfl rfl ?_
      refine go_callV (n2 := 0) (q := 39) kX2_69 (ctX7_get (a := 360) rfl rfl (by decide) (by decide) (by omega) (by decide)) (gDec iX2_fitsIntoGlyph_ok 18 rfl) rfl rfl (by decide) rfl rfl rfl (Nat.le_of_ble_eq_true rfl) rfl (gFit_rm (by decide) (by decide)) rfl ?_
      refine go_i2l (q := 40) (gDec iX2_fitsIntoGlyph_ok 19 rfl) rfl ?_
      refine go_ldc2 (q := 43) wX2_72 (gDec iX2_fitsIntoGlyph_ok 20 rfl) rfl ?_
      refine go_ldc2 (q := 46) wX2_74 (gDec iX2_fitsIntoGlyph_ok 21 rfl) rfl ?_
      refine go_callN (n2 := 0) (q := 49) kX2_76 ctX10_isWithin (gDec iX2_fitsIntoGlyph_ok 22 rfl) rfl rfl (Nat.le_of_ble_eq_true rfl) rfl (gFit_rm (by decide) (by decide)) rfl ?_
      refine go_top (v' := gWi (σ.1 360 i).toInt (-200) 1200) (by rw [i2l_toInt]; rfl) ?_
      refine go_if_ne (t := 54) (q := 52) (gDec iX2_fitsIntoGlyph_ok 23 rfl) (by decide) rfl (fun c49 => ?_) (fun c49 => ?_)
      · refine go_iinc (v := nI (i + 1)) (q := 57) (gDec iX2_fitsIntoGlyph_ok 26 rfl) rfl (nI_1 i) (by decide) rfl ?_
        refine go_goto (t := 2) (gDec iX2_fitsIntoGlyph_ok 27 rfl) (by decide) ?_
        refine go_sub (L' := [(0, .ref (κ.2.1 + 356)), (1, .int (nI (i + 1)))]) ⟨rfl, rfl, trivial⟩ ?_
        exact ih (i + 1) (by omega) (fun h9 => ho (by rw [if_neg c28, if_neg c49]; exact h9)) (fun h9 => h (by rw [if_neg c28, if_neg c49]; exact h9))
      · refine go_iconst (v := 0) (q := 53) (gDec iX2_fitsIntoGlyph_ok 24 rfl) (by decide) rfl ?_
        exact go_ireturn (gDec iX2_fitsIntoGlyph_ok 25 rfl) rfl rfl (ho (by first | rw [if_pos c28] | rw [if_neg c28, if_pos c49])) hσ (by decide)

set_option maxHeartbeats 4000000 in
set_option maxRecDepth 100000 in
theorem lpX2_fit2 {κ : gK} {σ σ' : gST} {p : Nat} {o : gO} (hp : σ.1 356 5 = nI p) (h60 : p ≤ 60) (hσ : σ' = σ) : ∀ (m i : Nat), i + m = p → (gFc (σ.1 362) i m = false → o = .inl (some (.int 0))) → (gFc (σ.1 362) i m = true → Go κ mX2_fitsIntoGlyph (gRm 1 0) (gZm κ o σ' 0) 91 [(0, .ref (κ.2.1 + 356))] [] σ 0) → Go κ mX2_fitsIntoGlyph (gRm 1 0) (gZm κ o σ' 0) 62 [(0, .ref (κ.2.1 + 356)), (1, .int (nI i))] [] σ 0 := by
  intro m
  induction m with
  | zero =>
    intro i hi ho h
    refine go_iload_n (q := 63) (gDec iX2_fitsIntoGlyph_ok 30 rfl) rfl rfl rfl ?_
    refine go_aload_n (q := 64) (gDec iX2_fitsIntoGlyph_ok 31 rfl) rfl rfl rfl ?_
    refine go_geti (q := 67) fX2_33 (gDec iX2_fitsIntoGlyph_ok 32 rfl) rfl (by decide) rfl ?_
    refine go_icmp_ge (t := 91) (q := 70) (gDec iX2_fitsIntoGlyph_ok 33 rfl) (by decide) rfl (fun c67 => ?_) (fun c67 => False.elim (c67 (by rw [hp]; exact nI_le (by omega) (by omega))))
    refine go_sub (L' := [(0, .ref (κ.2.1 + 356))]) ⟨rfl, trivial⟩ ?_
    exact h rfl
  | succ m ih =>
    intro i hi ho h
    unfold gFc at ho h
    refine go_iload_n (q := 63) (gDec iX2_fitsIntoGlyph_ok 30 rfl) rfl rfl rfl ?_
    refine go_aload_n (q := 64) (gDec iX2_fitsIntoGlyph_ok 31 rfl) rfl rfl rfl ?_
    refine go_geti (q := 67) fX2_33 (gDec iX2_fitsIntoGlyph_ok 32 rfl) rfl (by decide) rfl ?_
    refine go_icmp_ge (t := 91) (q := 70) (gDec iX2_fitsIntoGlyph_ok 33 rfl) (by decide) rfl (fun c67 => False.elim (by rw [hp] at c67; exact nI_ge (a := i) (b := p) (by omega) (by omega) c67)) (fun c67 => ?_)
    refine go_aload_n (q := 71) (gDec iX2_fitsIntoGlyph_ok 34 rfl) rfl rfl rfl ?_
    refine go_getr (r' := 361) (q := 74) fX2_23 (gDec iX2_fitsIntoGlyph_ok 35 rfl) rfl (by decide) rfl ?_
    refine go_iload_n (q := 75) (gDec iX2_fitsIntoGlyph_ok 36 rfl) rfl rfl rfl ?_
    refine go_callV (n2 := 0) (q := 78) kX2_69 (ctX7_get (a := 362) rfl rfl (by decide) (by decide) (by omega) (by decide)) (gDec iX2_fitsIntoGlyph_ok 37 rfl) rfl rfl (by decide) rfl rfl rfl (Nat.le_of_ble_eq_true rfl) rfl (gFit_rm (by decide) (by decide)) rfl ?_
    refine go_bipush (v := 12) (q := 80) (gDec iX2_fitsIntoGlyph_ok 38 rfl) (by decide) rfl ?_
    refine go_icmp_le (t := 85) (q := 83) (gDec iX2_fitsIntoGlyph_ok 39 rfl) (by decide) rfl (fun c80 => ?_) (fun c80 => ?_)
    · refine go_iinc (v := nI (i + 1)) (q := 88) (gDec iX2_fitsIntoGlyph_ok 42 rfl) rfl (nI_1 i) (by decide) rfl ?_
      refine go_goto (t := 62) (gDec iX2_fitsIntoGlyph_ok 43 rfl) (by decide) ?_
      refine go_sub (L' := [(0, .ref (κ.2.1 + 356)), (1, .int (nI (i + 1)))]) ⟨rfl, rfl, trivial⟩ ?_
      exact ih (i + 1) (by omega) (fun h9 => ho (by rw [if_neg (Int32.not_lt.mpr c80)]; exact h9)) (fun h9 => h (by rw [if_neg (Int32.not_lt.mpr c80)]; exact h9))
    · refine go_iconst (v := 0) (q := 84) (gDec iX2_fitsIntoGlyph_ok 40 rfl) (by decide) rfl ?_
      exact go_ireturn (gDec iX2_fitsIntoGlyph_ok 41 rfl) rfl rfl (ho (if_pos (Int32.not_le.mp c80))) hσ (by decide)

set_option maxHeartbeats 4000000 in
set_option maxRecDepth 100000 in
theorem ctX2_fitsIntoGlyph {κ : gK} {σ : gST} {p k : Nat} (hp : σ.1 356 6 = nI p) (hp60 : p ≤ 60) (hk : σ.1 356 5 = nI k) (hk60 : k ≤ 60) : gCt κ mX2_fitsIntoGlyph 1 [.ref (κ.2.1 + 356)] σ (.inl (some (.int (gFits σ)))) σ 0 := by
  have hpa : nA (σ.1 356 6) = p := by rw [hp]; exact nA_nI (by omega)
  have hka : nA (σ.1 356 5) = k := by rw [hk]; exact nA_nI (by omega)
  refine ct_of (by decide +kernel) rfl (Nat.le_of_ble_eq_true rfl) rfl ?_
  refine go_iconst (v := 0) (q := 1) (gDec iX2_fitsIntoGlyph_ok 0 rfl) (by decide) rfl ?_
  refine go_istore_n (q := 2) (gDec iX2_fitsIntoGlyph_ok 1 rfl) rfl (by decide) rfl ?_
  refine go_sub (L' := [(0, .ref (κ.2.1 + 356)), (1, .int (nI 0))]) ⟨rfl, rfl, trivial⟩ ?_
  refine lpX2_fit1 hp hp60 rfl p 0 (by omega) (fun h9 => by unfold gFits; rw [hpa, if_neg (fun h8 => by rw [h9] at h8; exact absurd h8.1 (by decide))]) (fun e1 => ?_)
  refine go_iconst (v := 0) (q := 61) (gDec iX2_fitsIntoGlyph_ok 28 rfl) (by decide) rfl ?_
  refine go_istore_n (q := 62) (gDec iX2_fitsIntoGlyph_ok 29 rfl) rfl (by decide) rfl ?_
  refine go_sub (L' := [(0, .ref (κ.2.1 + 356)), (1, .int (nI 0))]) ⟨rfl, rfl, trivial⟩ ?_
  refine lpX2_fit2 hk hk60 rfl k 0 (by omega) (fun h9 => by unfold gFits; rw [hka, if_neg (fun h8 => by rw [h9] at h8; exact absurd h8.2.1 (by decide))]) (fun e2 => ?_)
  refine go_aload_n (q := 92) (gDec iX2_fitsIntoGlyph_ok 44 rfl) rfl rfl rfl ?_
  refine go_geti (q := 95) fX2_33 (gDec iX2_fitsIntoGlyph_ok 45 rfl) rfl (by decide) rfl ?_
  refine go_iconst (v := 3) (q := 96) (gDec iX2_fitsIntoGlyph_ok 46 rfl) (by decide) rfl ?_
  refine go_icmp_gt (t := 103) (q := 99) (gDec iX2_fitsIntoGlyph_ok 47 rfl) (by decide) rfl (fun c96 => ?_) (fun c96 => ?_)
  · refine go_iconst (v := 0) (q := 104) (gDec iX2_fitsIntoGlyph_ok 50 rfl) (by decide) rfl ?_
    exact go_ireturn (gDec iX2_fitsIntoGlyph_ok 51 rfl) rfl rfl (by unfold gFits; rw [hpa, hka]; simp [e1, e2, c96]) rfl (by decide)
  · refine go_iconst (v := 1) (q := 100) (gDec iX2_fitsIntoGlyph_ok 48 rfl) (by decide) rfl ?_
    refine go_goto (t := 104) (gDec iX2_fitsIntoGlyph_ok 49 rfl) (by decide) ?_
    exact go_ireturn (gDec iX2_fitsIntoGlyph_ok 51 rfl) rfl rfl (by unfold gFits; rw [hpa, hka]; simp [e1, e2, c96]) rfl (by decide)

/-- the drawing of the text's contours -/
def gDrP (σ : gST) (g c p j : Nat) (w : gST) : gST := gPut (gPut (gPut w 10 ((g * 3 + c) * 12 + j) (σ.1 358 (p + j))) 12 ((g * 3 + c) * 12 + j) (σ.1 360 (p + j))) 8 (g * 3 + c) (nI (j + 1))
def gDrC (σ : gST) (g c : Nat) (a : Nat × gST) : Nat × gST := (a.1 + nA (σ.1 362 c), gLoop (gDrP σ g c a.1) 0 (nA (σ.1 362 c)) (gPut (gPut a.2 6 g (nI (c + 1))) 8 (g * 3 + c) 0))
def gDrE (σ a : gST) : Prop := ∀ k, 13 ≤ k → a.1 k = σ.1 k
theorem gDrE.put {σ a : gST} (h : gDrE σ a) {b : Nat} (hb : b < 13) (i : Nat) (v : Int32) : gDrE σ (gPut a b i v) := fun k hk => (gPut_ne _ _ _ (by omega)).trans (h k hk)
def gDrI (σ : gST) (g c j : Nat) (a : gST) : Prop := gDrE σ a ∧ a.1 8 (g * 3 + c) = nI j ∧ a.1 6 g = nI (c + 1)
theorem gDrP_I {σ a : gST} {g c p j : Nat} (h : gDrI σ g c j a) : gDrI σ g c (j + 1) (gDrP σ g c p j a) :=
  ⟨((h.1.put (by decide) _ _).put (by decide) _ _).put (by decide) _ _, by unfold gDrP; rw [gPut_at, if_pos ⟨rfl, rfl⟩], by
    unfold gDrP
    rw [gPut_ne _ _ _ (by decide), gPut_ne _ _ _ (by decide), gPut_ne _ _ _ (by decide)]
    exact h.2.2⟩
theorem gDrL_I {σ : gST} {g c p : Nat} : ∀ (m i : Nat) (a : gST), gDrI σ g c i a → gDrI σ g c (i + m) (gLoop (gDrP σ g c p) i m a)
  | 0, _, _, h => h
  | m + 1, i, a, h => by
    have h2 := gDrL_I (p := p) m (i + 1) _ (gDrP_I (p := p) h)
    rw [show i + 1 + m = i + (m + 1) by omega] at h2
    exact h2
def gDrO (σ : gST) (g c : Nat) (a : Nat × gST) : Prop := gDrE σ a.2 ∧ a.2.1 6 g = nI c ∧ a.1 ≤ 12 * c
theorem gDr_s {σ : gST} {g c : Nat} {a : Nat × gST} (h : gDrO σ g c a) : gDrI σ g c 0 (gPut (gPut a.2 6 g (nI (c + 1))) 8 (g * 3 + c) 0) :=
  ⟨(h.1.put (by decide) _ _).put (by decide) _ _, by rw [gPut_at, if_pos ⟨rfl, rfl⟩]; rfl, by rw [gPut_ne _ _ _ (by decide), gPut_at, if_pos ⟨rfl, rfl⟩]⟩
theorem gDrC_O {σ : gST} {g c : Nat} {a : Nat × gST} (h : gDrO σ g c a) (h12 : nA (σ.1 362 c) ≤ 12) : gDrO σ g (c + 1) (gDrC σ g c a) := by
  have h1 := gDrL_I (p := a.1) (nA (σ.1 362 c)) 0 _ (gDr_s h)
  refine ⟨h1.1, h1.2.2, ?_⟩
  have := h.2.2
  show a.1 + nA (σ.1 362 c) ≤ 12 * (c + 1)
  omega

set_option maxHeartbeats 4000000 in
set_option maxRecDepth 100000 in
theorem lpX2_draw2 {κ : gK} {Z : gZ}  {σ : gST} {g c p P E : Nat} (hg : g < 24) (hc : c < 3) (hP : P ≤ 12) (hpP : p + P ≤ 60) (hE : E = p + P) : ∀ (m i : Nat) (a : gST), i + m = P → gDrI σ g c i a → Go κ mX2_drawInto (gRm 4 0) Z 80 [(0, .ref (κ.2.1 + 356)), (1, .ref (κ.2.1 + 2)), (2, .int (nI g)), (3, .int (nI p)), (4, .int (nI c)), (5, .int (nI c)), (6, .int (nI E)), (7, .int (nI (p + P)))] [] (gLoop (gDrP σ g c p) i m a) 0 → Go κ mX2_drawInto (gRm 4 0) Z 42 [(0, .ref (κ.2.1 + 356)), (1, .ref (κ.2.1 + 2)), (2, .int (nI g)), (3, .int (nI p)), (4, .int (nI c)), (5, .int (nI c)), (6, .int (nI E)), (7, .int (nI (p + i)))] [] a 0 := by
  intro m
  induction m with
  | zero =>
    intro i a hi hI h
    have hiN : P = i := by omega
    rw [hiN] at h
    refine go_iload (q := 44) (gDec iX2_drawInto_ok 24 rfl) rfl rfl ?_
    refine go_iload (q := 46) (gDec iX2_drawInto_ok 25 rfl) rfl rfl ?_
    refine go_icmp_ge (t := 80) (q := 49) (gDec iX2_drawInto_ok 26 rfl) (by decide) rfl (fun c46 => ?_) (fun c46 => False.elim (c46 (nI_le (a := E) (b := p + i) (by omega) (by omega))))
    refine go_sub (L' := [(0, .ref (κ.2.1 + 356)), (1, .ref (κ.2.1 + 2)), (2, .int (nI g)), (3, .int (nI p)), (4, .int (nI c)), (5, .int (nI c)), (6, .int (nI E)), (7, .int (nI (p + i)))]) ⟨rfl, rfl, rfl, rfl, rfl, rfl, rfl, rfl, trivial⟩ ?_
    exact h
  | succ m ih =>
    intro i a hi hI h
    refine go_iload (q := 44) (gDec iX2_drawInto_ok 24 rfl) rfl rfl ?_
    refine go_iload (q := 46) (gDec iX2_drawInto_ok 25 rfl) rfl rfl ?_
    refine go_icmp_ge (t := 80) (q := 49) (gDec iX2_drawInto_ok 26 rfl) (by decide) rfl (fun c46 => False.elim (nI_ge (a := p + i) (b := E) (by omega) (by omega) c46)) (fun c46 => ?_)
    refine go_aload_n (q := 50) (gDec iX2_drawInto_ok 27 rfl) rfl rfl rfl ?_
    refine go_iload_n (q := 51) (gDec iX2_drawInto_ok 28 rfl) rfl rfl rfl ?_
    refine go_iload (q := 53) (gDec iX2_drawInto_ok 29 rfl) rfl rfl ?_
    refine go_aload_n (q := 54) (gDec iX2_drawInto_ok 30 rfl) rfl rfl rfl ?_
    refine go_getr (r' := 357) (q := 57) fX2_14 (gDec iX2_drawInto_ok 31 rfl) rfl (by decide) rfl ?_
    refine go_iload (q := 59) (gDec iX2_drawInto_ok 32 rfl) rfl rfl ?_
    refine go_callV (n2 := 0) (q := 62) kX2_69 (ctX7_get (a := 358) rfl rfl (by decide) (by decide) (i := p + i) (by omega) (by decide)) (gDec iX2_drawInto_ok 33 rfl) rfl rfl (by decide) rfl rfl rfl (Nat.le_of_ble_eq_true rfl) rfl (gFit_rm (by decide) (by decide)) rfl ?_
    refine go_top (v' := σ.1 358 (p + i)) (congrFun (hI.1 358 (by decide)) _) ?_
    refine go_aload_n (q := 63) (gDec iX2_drawInto_ok 34 rfl) rfl rfl rfl ?_
    refine go_getr (r' := 359) (q := 66) fX2_20 (gDec iX2_drawInto_ok 35 rfl) rfl (by decide) rfl ?_
    refine go_iload (q := 68) (gDec iX2_drawInto_ok 36 rfl) rfl rfl ?_
    refine go_callV (n2 := 0) (q := 71) kX2_69 (ctX7_get (a := 360) rfl rfl (by decide) (by decide) (i := p + i) (by omega) (by decide)) (gDec iX2_drawInto_ok 37 rfl) rfl rfl (by decide) rfl rfl rfl (Nat.le_of_ble_eq_true rfl) rfl (gFit_rm (by decide) (by decide)) rfl ?_
    refine go_top (v' := σ.1 360 (p + i)) (congrFun (hI.1 360 (by decide)) _) ?_
    refine go_callV (n2 := 0) (q := 74) kX2_89 (ctX5_addPoint (p := i) (by omega) (by omega) hI.2.1 (by omega)) (gDec iX2_drawInto_ok 38 rfl) rfl rfl (by decide) rfl rfl rfl (Nat.le_of_ble_eq_true rfl) rfl (gFit_rm (by decide) (by decide)) rfl ?_
    refine go_iinc (v := nI (p + (i + 1))) (q := 77) (gDec iX2_drawInto_ok 39 rfl) rfl (nI_1 (p + i)) (by decide) rfl ?_
    refine go_goto (t := 42) (gDec iX2_drawInto_ok 40 rfl) (by decide) ?_
    refine go_sub (L' := [(0, .ref (κ.2.1 + 356)), (1, .ref (κ.2.1 + 2)), (2, .int (nI g)), (3, .int (nI p)), (4, .int (nI c)), (5, .int (nI c)), (6, .int (nI E)), (7, .int (nI (p + (i + 1))))]) ⟨rfl, rfl, rfl, rfl, rfl, rfl, rfl, rfl, trivial⟩ ?_
    exact ih (i + 1) ((gDrP σ g c p) i a) (by omega) (gDrP_I hI) h

set_option maxHeartbeats 4000000 in
set_option maxRecDepth 100000 in
theorem lpX2_draw1 {κ : gK} {Z : gZ}  {σ : gST} {g K : Nat} (hg : g < 24) (hK : K ≤ 3) (hk : σ.1 356 5 = nI K) (h12 : ∀ c, c < K → 0 ≤ (σ.1 362 c).toInt ∧ (σ.1 362 c).toInt ≤ 12) : ∀ (m i : Nat) (a : Nat × gST), i + m = K → gDrO σ g i a → Go κ mX2_drawInto (gRm 4 0) Z 89 [(0, .ref (κ.2.1 + 356)), (1, .ref (κ.2.1 + 2)), (2, .int (nI g)), (3, .int (nI (gLoop (gDrC σ g) i m a).1)), (4, .int (nI K))] [] (gLoop (gDrC σ g) i m a).2 0 → Go κ mX2_drawInto (gRm 4 0) Z 10 [(0, .ref (κ.2.1 + 356)), (1, .ref (κ.2.1 + 2)), (2, .int (nI g)), (3, .int (nI a.1)), (4, .int (nI i))] [] a.2 0 := by
  intro m
  induction m with
  | zero =>
    intro i a hi hI h
    have hiN : K = i := by omega
    rw [hiN] at h
    refine go_iload (q := 12) (gDec iX2_drawInto_ok 7 rfl) rfl rfl ?_
    refine go_aload_n (q := 13) (gDec iX2_drawInto_ok 8 rfl) rfl rfl rfl ?_
    refine go_geti (q := 16) fX2_33 (gDec iX2_drawInto_ok 9 rfl) rfl (by decide) rfl ?_
    refine go_icmp_ge (t := 89) (q := 19) (gDec iX2_drawInto_ok 10 rfl) (by decide) rfl (fun c16 => ?_) (fun c16 => False.elim (c16 (by rw [((congrFun (hI.1 356 (by decide)) 5).trans hk)]; exact nI_le (by omega) (by omega))))
    refine go_sub (L' := [(0, .ref (κ.2.1 + 356)), (1, .ref (κ.2.1 + 2)), (2, .int (nI g)), (3, .int (nI a.1)), (4, .int (nI i))]) ⟨rfl, rfl, rfl, rfl, rfl, trivial⟩ ?_
    exact h
  | succ m ih =>
    intro i a hi hI h
    have hP12 : nA (σ.1 362 i) ≤ 12 := nA_le (h12 i (by omega)).2
    have ha12 := hI.2.2
    refine go_iload (q := 12) (gDec iX2_drawInto_ok 7 rfl) rfl rfl ?_
    refine go_aload_n (q := 13) (gDec iX2_drawInto_ok 8 rfl) rfl rfl rfl ?_
    refine go_geti (q := 16) fX2_33 (gDec iX2_drawInto_ok 9 rfl) rfl (by decide) rfl ?_
    refine go_icmp_ge (t := 89) (q := 19) (gDec iX2_drawInto_ok 10 rfl) (by decide) rfl (fun c16 => False.elim (by rw [((congrFun (hI.1 356 (by decide)) 5).trans hk)] at c16; exact nI_ge (a := i) (b := K) (by omega) (by omega) c16)) (fun c16 => ?_)
    refine go_aload_n (q := 20) (gDec iX2_drawInto_ok 11 rfl) rfl rfl rfl ?_
    refine go_iload_n (q := 21) (gDec iX2_drawInto_ok 12 rfl) rfl rfl rfl ?_
    refine go_callV (n2 := 0) (q := 24) kX2_86 (ctX5_addEmptyContour (c := i) (by omega) hI.2.1 (by omega)) (gDec iX2_drawInto_ok 13 rfl) rfl rfl (by decide) rfl rfl rfl (Nat.le_of_ble_eq_true rfl) rfl (gFit_rm (by decide) (by decide)) rfl ?_
    refine go_istore (q := 26) (gDec iX2_drawInto_ok 14 rfl) (by decide) rfl ?_
    refine go_iload_n (q := 27) (gDec iX2_drawInto_ok 15 rfl) rfl rfl rfl ?_
    refine go_aload_n (q := 28) (gDec iX2_drawInto_ok 16 rfl) rfl rfl rfl ?_
    refine go_getr (r' := 361) (q := 31) fX2_23 (gDec iX2_drawInto_ok 17 rfl) rfl (by decide) rfl ?_
    refine go_iload (q := 33) (gDec iX2_drawInto_ok 18 rfl) rfl rfl ?_
    refine go_callV (n2 := 0) (q := 36) kX2_69 (ctX7_get (a := 362) rfl rfl (by decide) (by decide) (i := i) (by omega) (by decide)) (gDec iX2_drawInto_ok 19 rfl) rfl rfl (by decide) rfl rfl rfl (Nat.le_of_ble_eq_true rfl) rfl (gFit_rm (by decide) (by decide)) rfl ?_
    refine go_top (v' := nI (nA (σ.1 362 i))) ((congrFun ((gDr_s hI).1 362 (by decide)) i).trans (nA_n (h12 i (by omega)).1)) ?_
    refine go_iadd (q := 37) (gDec iX2_drawInto_ok 20 rfl) rfl ?_
    refine go_top (v' := nI (a.1 + nA (σ.1 362 i))) (nI_add _ _) ?_
    refine go_istore (q := 39) (gDec iX2_drawInto_ok 21 rfl) (by decide) rfl ?_
    refine go_iload_n (q := 40) (gDec iX2_drawInto_ok 22 rfl) rfl rfl rfl ?_
    refine go_istore (q := 42) (gDec iX2_drawInto_ok 23 rfl) (by decide) rfl ?_
    refine go_sub (L' := [(0, .ref (κ.2.1 + 356)), (1, .ref (κ.2.1 + 2)), (2, .int (nI g)), (3, .int (nI a.1)), (4, .int (nI i)), (5, .int (nI i)), (6, .int (nI (a.1 + nA (σ.1 362 i)))), (7, .int (nI (a.1 + 0)))]) ⟨rfl, rfl, rfl, rfl, rfl, rfl, rfl, rfl, trivial⟩ ?_
    refine lpX2_draw2 (σ := σ) hg (by omega) hP12 (by omega) rfl (nA (σ.1 362 i)) 0 _ (by omega) (gDr_s hI) ?_
    refine go_iload (q := 82) (gDec iX2_drawInto_ok 41 rfl) rfl rfl ?_
    refine go_istore_n (q := 83) (gDec iX2_drawInto_ok 42 rfl) rfl (by decide) rfl ?_
    refine go_iinc (v := nI (i + 1)) (q := 86) (gDec iX2_drawInto_ok 43 rfl) rfl (nI_1 i) (by decide) rfl ?_
    refine go_goto (t := 10) (gDec iX2_drawInto_ok 44 rfl) (by decide) ?_
    refine go_sub (L' := [(0, .ref (κ.2.1 + 356)), (1, .ref (κ.2.1 + 2)), (2, .int (nI g)), (3, .int (nI (gDrC σ g i a).1)), (4, .int (nI (i + 1)))]) ⟨rfl, rfl, rfl, rfl, rfl, trivial⟩ ?_
    exact ih (i + 1) (gDrC σ g i a) (by omega) (gDrC_O hI hP12) h

set_option maxHeartbeats 4000000 in
set_option maxRecDepth 100000 in
theorem ctX2_drawInto {κ : gK} {σ : gST} {g K : Nat} (hg : g < 24) (hK : K ≤ 3) (hk : σ.1 356 5 = nI K) (h12 : ∀ c, c < K → 0 ≤ (σ.1 362 c).toInt ∧ (σ.1 362 c).toInt ≤ 12) : gCt κ mX2_drawInto 4 [.ref (κ.2.1 + 356), .ref (κ.2.1 + 2), .int (nI g)] σ (.inl none) (gLoop (gDrC σ g) 0 K ((0 : Nat), gPut σ 6 g 0)).2 0 := by
  refine ct_of (by decide +kernel) rfl (Nat.le_of_ble_eq_true rfl) rfl ?_
  refine go_aload_n (q := 1) (gDec iX2_drawInto_ok 0 rfl) rfl rfl rfl ?_
  refine go_iload_n (q := 2) (gDec iX2_drawInto_ok 1 rfl) rfl rfl rfl ?_
  refine go_callV (n2 := 0) (q := 5) kX2_80 (ctX5_removeContours (by omega)) (gDec iX2_drawInto_ok 2 rfl) rfl rfl (by decide) rfl rfl rfl (Nat.le_of_ble_eq_true rfl) rfl (gFit_rm (by decide) (by decide)) rfl ?_
  refine go_iconst (v := 0) (q := 6) (gDec iX2_drawInto_ok 3 rfl) (by decide) rfl ?_
  refine go_istore_n (q := 7) (gDec iX2_drawInto_ok 4 rfl) rfl (by decide) rfl ?_
  refine go_iconst (v := 0) (q := 8) (gDec iX2_drawInto_ok 5 rfl) (by decide) rfl ?_
  refine go_istore (q := 10) (gDec iX2_drawInto_ok 6 rfl) (by decide) rfl ?_
  refine go_sub (L' := [(0, .ref (κ.2.1 + 356)), (1, .ref (κ.2.1 + 2)), (2, .int (nI g)), (3, .int (nI ((0 : Nat), gPut σ 6 g 0).1)), (4, .int (nI 0))]) ⟨rfl, rfl, rfl, rfl, rfl, trivial⟩ ?_
  refine lpX2_draw1 (σ := σ) hg hK hk h12 K 0 ((0 : Nat), gPut σ 6 g 0) (by omega) ⟨fun k hk => gPut_ne _ _ _ (by omega), (by rw [gPut_at, if_pos ⟨rfl, rfl⟩]; rfl), Nat.le_refl 0⟩ ?_
  exact go_return (gDec iX2_drawInto_ok 45 rfl) rfl rfl rfl (by decide)
