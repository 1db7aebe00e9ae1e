/-- only the parser's objects change -/
def gFx (a b : gST) : Prop := (∀ k, k ≠ 356 → k ≠ 358 → k ≠ 360 → k ≠ 362 → b.1 k = a.1 k) ∧ b.2 = a.2
theorem gFx.rf (a : gST) : gFx a a := ⟨fun _ _ _ _ _ => rfl, rfl⟩
theorem gFx.tr {a b c : gST} (h : gFx a b) (h2 : gFx b c) : gFx a c := ⟨fun k h3 h4 h5 h6 => (h2.1 k h3 h4 h5 h6).trans (h.1 k h3 h4 h5 h6), h2.2.trans h.2⟩
theorem gFx.put {a b : gST} (h : gFx a b) {k : Nat} (hk : k = 356 ∨ k = 358 ∨ k = 360 ∨ k = 362) (i : Nat) (v : Int32) : gFx a (gPut b k i v) :=
  ⟨fun j h3 h4 h5 h6 => (gPut_ne _ _ _ (by omega)).trans (h.1 j h3 h4 h5 h6), h.2⟩
theorem gBc_x {a b : gST} (h : gFx a b) (v : Int32) : gFx a (gBc b v) := ((h.put (by decide) _ _).put (by decide) _ _).put (by decide) _ _
theorem gA0_x (σ : gST) (c : Int32) : gFx σ (gA0 σ c).2 := ((gFx.rf σ).put (by decide) _ _).put (by decide) _ _
theorem gA1_x (σ : gST) (c : Int32) : gFx σ (gA1 σ c).2 := gBc_x ((gFx.rf σ).put (by decide) _ _) _
theorem gAm_x (σ : gST) (c : Int32) : gFx σ (gAm σ c).2 := by
  unfold gAm
  split
  · exact ((gFx.rf σ).put (by decide) _ _).put (by decide) _ _
  · exact gFx.rf σ
theorem gAf_x (σ : gST) (c : Int32) : gFx σ (gAf σ c).2 := (((gFx.rf σ).put (by decide) _ _).put (by decide) _ _).put (by decide) _ _
theorem gAn_x (σ : gST) (c : Int32) : gFx σ (gAn σ c).2 := by
  unfold gAn
  split
  · exact gFx.rf σ
  · split
    · exact gFx.rf σ
    · split
      · exact ((gFx.rf σ).put (by decide) _ _).put (by decide) _ _
      · exact gFx.rf σ
theorem gAk_x (σ : gST) (c : Int32) : gFx σ (gAk σ c).2 := gBc_x ((gFx.rf σ).put (by decide) _ _) _
theorem gApW_x (σ : gST) : gFx σ (gApW σ) := (((gFx.rf σ).put (by decide) _ _).put (by decide) _ _).put (by decide) _ _
theorem gAp_x (σ : gST) (c : Int32) : gFx σ (gAp σ c).2 := by
  unfold gAp
  split
  · exact (((gApW_x σ).put (by decide) _ _).put (by decide) _ _).put (by decide) _ _
  · exact gBc_x (gApW_x σ) _
theorem gAe_x (σ : gST) (c : Int32) : gFx σ (gAe σ c).2 := by
  unfold gAe
  split
  · exact gAk_x σ c
  · exact gAp_x σ c
theorem gAm_0 {σ : gST} {c : Int32} (h : (gAm σ c).1 = 0) : (gAm σ c).2 = σ := by
  unfold gAm at h ⊢
  split
  · rename_i h1
    rw [if_pos h1] at h
    exact absurd (show (1 : Int32) = 0 from h) (by decide)
  · rfl
/-- what a sign changes of state and counts -/
def gFy (a b : gST) : Prop := (∃ s, s ≤ 5 ∧ b.1 356 3 = nI s) ∧ (b.1 356 6 = a.1 356 6 ∨ b.1 356 6 = a.1 356 6 + 1) ∧ (b.1 356 5 = a.1 356 5 ∨ b.1 356 5 = a.1 356 5 + 1)
theorem gA0_y (σ : gST) (c : Int32) : gFy σ (gA0 σ c).2 := ⟨⟨1, by decide, by simp [gA0, gPut_at]; rfl⟩, Or.inl (by simp [gA0, gPut_at]), Or.inl (by simp [gA0, gPut_at])⟩
theorem gA1_y (σ : gST) (c : Int32) : gFy σ (gA1 σ c).2 := ⟨⟨2, by decide, by simp [gA1, gBc, gPut_at]; rfl⟩, Or.inl (by simp [gA1, gBc, gPut_at]), Or.inl (by simp [gA1, gBc, gPut_at])⟩
theorem gAm_y {σ : gST} {c : Int32} (h : ¬ (gAm σ c).1 = 0) : gFy σ (gAm σ c).2 := by
  unfold gAm at h ⊢
  split
  · exact ⟨⟨3, by decide, by simp [gPut_at]; rfl⟩, Or.inl (by simp [gPut_at]), Or.inl (by simp [gPut_at])⟩
  · rename_i h1
    rw [if_neg h1] at h
    exact absurd rfl h
theorem gAf_y (σ : gST) (c : Int32) : gFy σ (gAf σ c).2 := ⟨⟨4, by decide, by simp [gAf, gPut_at]; rfl⟩, Or.inl (by simp [gAf, gPut_at]), Or.inl (by simp [gAf, gPut_at])⟩
theorem gAn_y {σ : gST} {c : Int32} {s : Nat} (hs5 : s ≤ 5) (hs : σ.1 356 3 = nI s) : gFy σ (gAn σ c).2 := by
  have h0 : gFy σ σ := ⟨⟨s, hs5, hs⟩, Or.inl rfl, Or.inl rfl⟩
  unfold gAn
  split
  · exact h0
  · split
    · exact h0
    · split
      · exact ⟨⟨s, hs5, by simp [gPut_at, hs]⟩, Or.inl (by simp [gPut_at]), Or.inl (by simp [gPut_at])⟩
      · exact h0
theorem gAk_y (σ : gST) (c : Int32) : gFy σ (gAk σ c).2 := ⟨⟨2, by decide, by simp [gAk, gBc, gPut_at]; rfl⟩, Or.inl (by simp [gAk, gBc, gPut_at]), Or.inl (by simp [gAk, gBc, gPut_at])⟩
theorem gAp_y (σ : gST) (c : Int32) : gFy σ (gAp σ c).2 := by
  unfold gAp
  split
  · exact ⟨⟨5, by decide, by simp [gApW, gPut_at]; rfl⟩, Or.inr (by simp [gApW, gPut_at]), Or.inr (by simp [gApW, gPut_at])⟩
  · exact ⟨⟨2, by decide, by simp [gApW, gBc, gPut_at]; rfl⟩, Or.inr (by simp [gApW, gBc, gPut_at]), Or.inl (by simp [gApW, gBc, gPut_at])⟩
theorem gAe_y (σ : gST) (c : Int32) : gFy σ (gAe σ c).2 := by
  unfold gAe
  split
  · exact gAk_y σ c
  · exact gAp_y σ c
theorem gAcc_xy {σ : gST} {c : Int32} {s : Nat} (hs5 : s ≤ 5) (hs : σ.1 356 3 = nI s) : gFx σ (gAcc σ c).2 ∧ gFy σ (gAcc σ c).2 := by
  have hna : nA (σ.1 356 3) = s := by rw [hs]; exact nA_nI (by omega)
  rcases (by omega : s = 0 ∨ s = 1 ∨ s = 2 ∨ s = 3 ∨ s = 4 ∨ s = 5) with h9 | h9 | h9 | h9 | h9 | h9 <;> subst h9
  · rw [gAcc_0 hna]; exact ⟨gA0_x _ _, gA0_y _ _⟩
  · rw [gAcc_1 hna]; exact ⟨gA1_x _ _, gA1_y _ _⟩
  · rw [gAcc_2 hna]
    split
    · rename_i h
      rw [gAm_0 h]
      exact ⟨gAf_x _ _, gAf_y _ _⟩
    · rename_i h
      exact ⟨gAm_x _ _, gAm_y h⟩
  · rw [gAcc_3 hna]; exact ⟨gAf_x _ _, gAf_y _ _⟩
  · rw [gAcc_4 hna]
    split
    · rename_i h
      rw [gAn_0 h]
      exact ⟨gAe_x _ _, gAe_y _ _⟩
    · rename_i h
      exact ⟨gAn_x _ _, gAn_y hs5 hs⟩
  · rw [gAcc_5 hna]; exact ⟨gA1_x _ _, gA1_y _ _⟩
/-- the signs from i on, m of them: the place of the fault, or -1 -/
def gFi (t : Nat → Int32) : Nat → Nat → gST → Int32 × gST
  | i, 0, a => (if a.1 356 3 = 5 then -1 else nI i, a)
  | i, m + 1, a => if (gAcc a (t i)).1 = 0 then (nI i, (gAcc a (t i)).2) else gFi t (i + 1) m (gAcc a (t i)).2
def gFI (σ : gST) (i : Nat) (a : gST) : Prop := gFx σ a ∧ (∃ s, s ≤ 5 ∧ a.1 356 3 = nI s) ∧ (∃ p, p ≤ i ∧ a.1 356 6 = nI p) ∧ (∃ k, k ≤ i ∧ a.1 356 5 = nI k)
theorem gFI_1 {σ a : gST} {i : Nat} (c : Int32) (h : gFI σ i a) : gFI σ (i + 1) (gAcc a c).2 := by
  obtain ⟨h1, ⟨s, hs5, hs⟩, ⟨p, hp, hpe⟩, ⟨k, hk, hke⟩⟩ := h
  obtain ⟨hx, hs2, hp2, hk2⟩ := gAcc_xy (c := c) hs5 hs
  refine ⟨h1.tr hx, hs2, ?_, ?_⟩
  · rcases hp2 with h | h
    · exact ⟨p, by omega, h.trans hpe⟩
    · exact ⟨p + 1, by omega, by rw [h, hpe, nI_1]⟩
  · rcases hk2 with h | h
    · exact ⟨k, by omega, h.trans hke⟩
    · exact ⟨k + 1, by omega, by rw [h, hke, nI_1]⟩
theorem gFi_I {σ : gST} {t : Nat → Int32} : ∀ (m i : Nat) (a : gST), gFI σ i a → gFI σ (i + m) (gFi t i m a).2
  | 0, _, _, h => h
  | m + 1, i, a, h => by
    have h1 := gFI_1 (t i) h
    unfold gFi
    split
    · refine ⟨h1.1, h1.2.1, ?_, ?_⟩
      · obtain ⟨p, hp, he⟩ := h1.2.2.1; exact ⟨p, by omega, he⟩
      · obtain ⟨p, hp, he⟩ := h1.2.2.2; exact ⟨p, by omega, he⟩
    · have h2 := gFi_I (t := t) m (i + 1) _ h1
      have h3 : i + 1 + m = i + (m + 1) := by omega
      rw [h3] at h2
      exact h2

set_option maxHeartbeats 4000000 in
set_option maxRecDepth 100000 in
theorem lpX2_faultIn {κ : gK} {σ : gST} (hT : gTW σ) : ∀ (m i : Nat) (a : gST), i + m = gTl σ → gFI σ i a → Go κ mX2_faultIn (gRm 4 0) (gZm κ (.inl (some (.int (gFi (σ.1 355) i m a).1))) (gFi (σ.1 355) i m a).2 0) 17 [(0, .ref (κ.2.1 + 356)), (1, .ref (κ.2.1 + 353)), (2, .int (nI i))] [] a 0 := by
  have h60 := hT.tl60
  intro m
  induction m with
  | zero =>
    intro i a hi hI
    have hl : a.1 353 1 = nI i := (congrFun (hI.1.1 353 (by decide) (by decide) (by decide) (by decide)) 1).trans (hT.tl.trans (congrArg nI (by omega)))
    refine go_iload_n (q := 18) (gDec iX2_faultIn_ok 11 rfl) rfl rfl rfl ?_
    refine go_aload_n (q := 19) (gDec iX2_faultIn_ok 12 rfl) rfl rfl rfl ?_
    refine go_callV (n2 := 0) (q := 22) kX2_55 ctX9_length (gDec iX2_faultIn_ok 13 rfl) rfl rfl (by decide) rfl rfl rfl (Nat.le_of_ble_eq_true rfl) rfl (gFit_rm (by decide) (by decide)) rfl ?_
    refine go_icmp_ge (t := 45) (q := 25) (gDec iX2_faultIn_ok 14 rfl) (by decide) rfl (fun c22 => ?_) (fun c22 => False.elim (c22 (by rw [hl]; exact nI_le (a := i) (b := i) (by omega) (by omega))))
    refine go_aload_n (q := 46) (gDec iX2_faultIn_ok 25 rfl) rfl rfl rfl ?_
    refine go_geti (q := 49) fX2_26 (gDec iX2_faultIn_ok 26 rfl) rfl (by decide) rfl ?_
    refine go_iconst (v := 5) (q := 50) (gDec iX2_faultIn_ok 27 rfl) (by decide) rfl ?_
    refine go_icmp_ne (t := 57) (q := 53) (gDec iX2_faultIn_ok 28 rfl) (by decide) rfl (fun c50 => ?_) (fun c50 => ?_)
    · refine go_aload_n (q := 58) (gDec iX2_faultIn_ok 31 rfl) rfl rfl rfl ?_
      refine go_callV (n2 := 0) (q := 61) kX2_55 ctX9_length (gDec iX2_faultIn_ok 32 rfl) rfl rfl (by decide) rfl rfl rfl (Nat.le_of_ble_eq_true rfl) rfl (gFit_rm (by decide) (by decide)) rfl ?_
      exact go_ireturn (gDec iX2_faultIn_ok 33 rfl) rfl rfl (by show Sum.inl (some (Value.int (if a.1 356 3 = 5 then -1 else nI i))) = _; first | rw [if_pos c50] | (rw [if_neg c50, hl])) rfl (by decide)
    · refine go_iconst (v := (-1)) (q := 54) (gDec iX2_faultIn_ok 29 rfl) (by decide) rfl ?_
      refine go_goto (t := 61) (gDec iX2_faultIn_ok 30 rfl) (by decide) ?_
      exact go_ireturn (gDec iX2_faultIn_ok 33 rfl) rfl rfl (by show Sum.inl (some (Value.int (if a.1 356 3 = 5 then -1 else nI i))) = _; first | rw [if_pos c50] | (rw [if_neg c50, hl])) rfl (by decide)
  | succ m ih =>
    intro i a hi hI
    have hl : a.1 353 1 = nI (gTl σ) := (congrFun (hI.1.1 353 (by decide) (by decide) (by decide) (by decide)) 1).trans hT.tl
    have h1 := gFI_1 (σ.1 355 i) hI
    obtain ⟨s, hs5, hs⟩ := hI.2.1
    obtain ⟨p, hp, hpe⟩ := hI.2.2.1
    obtain ⟨k, hk, hke⟩ := hI.2.2.2
    unfold gFi
    by_cases hc : (gAcc a (σ.1 355 i)).1 = 0
    · rw [if_pos hc]
      refine go_iload_n (q := 18) (gDec iX2_faultIn_ok 11 rfl) rfl rfl rfl ?_
      refine go_aload_n (q := 19) (gDec iX2_faultIn_ok 12 rfl) rfl rfl rfl ?_
      refine go_callV (n2 := 0) (q := 22) kX2_55 ctX9_length (gDec iX2_faultIn_ok 13 rfl) rfl rfl (by decide) rfl rfl rfl (Nat.le_of_ble_eq_true rfl) rfl (gFit_rm (by decide) (by decide)) rfl ?_
      refine go_icmp_ge (t := 45) (q := 25) (gDec iX2_faultIn_ok 14 rfl) (by decide) rfl (fun c22 => False.elim (by rw [hl] at c22; exact nI_ge (a := i) (b := gTl σ) (by omega) (by omega) c22)) (fun c22 => ?_)
      refine go_aload_n (q := 26) (gDec iX2_faultIn_ok 15 rfl) rfl rfl rfl ?_
      refine go_aload_n (q := 27) (gDec iX2_faultIn_ok 16 rfl) rfl rfl rfl ?_
      refine go_iload_n (q := 28) (gDec iX2_faultIn_ok 17 rfl) rfl rfl rfl ?_
      refine go_callV (n2 := 0) (q := 31) kX2_61 (ctX9_signAt (i := i) (by omega)) (gDec iX2_faultIn_ok 18 rfl) rfl rfl (by decide) rfl rfl rfl (Nat.le_of_ble_eq_true rfl) rfl (gFit_rm (by decide) (by decide)) rfl ?_
      refine go_top (v' := σ.1 355 i) (congrFun (hI.1.1 355 (by decide) (by decide) (by decide) (by decide)) i) ?_
      refine go_callV (n2 := 0) (q := 34) kX2_65 (ctX2_accepts (s := s) (p := p) (k := k) hpe (by omega) hke (by omega) hs5 hs) (gDec iX2_faultIn_ok 19 rfl) rfl rfl (by decide) rfl rfl rfl (Nat.le_of_ble_eq_true rfl) rfl (gFit_rm (by decide) (by decide)) rfl ?_
      refine go_if_ne (t := 39) (q := 37) (gDec iX2_faultIn_ok 20 rfl) (by decide) rfl (fun c34 => False.elim (c34 hc)) (fun c34 => ?_)
      refine go_iload_n (q := 38) (gDec iX2_faultIn_ok 21 rfl) rfl rfl rfl ?_
      exact go_ireturn (gDec iX2_faultIn_ok 22 rfl) rfl rfl rfl rfl (by decide)
    · rw [if_neg hc]
      refine go_iload_n (q := 18) (gDec iX2_faultIn_ok 11 rfl) rfl rfl rfl ?_
      refine go_aload_n (q := 19) (gDec iX2_faultIn_ok 12 rfl) rfl rfl rfl ?_
      refine go_callV (n2 := 0) (q := 22) kX2_55 ctX9_length (gDec iX2_faultIn_ok 13 rfl) rfl rfl (by decide) rfl rfl rfl (Nat.le_of_ble_eq_true rfl) rfl (gFit_rm (by decide) (by decide)) rfl ?_
      refine go_icmp_ge (t := 45) (q := 25) (gDec iX2_faultIn_ok 14 rfl) (by decide) rfl (fun c22 => False.elim (by rw [hl] at c22; exact nI_ge (a := i) (b := gTl σ) (by omega) (by omega) c22)) (fun c22 => ?_)
      refine go_aload_n (q := 26) (gDec iX2_faultIn_ok 15 rfl) rfl rfl rfl ?_
      refine go_aload_n (q := 27) (gDec iX2_faultIn_ok 16 rfl) rfl rfl rfl ?_
      refine go_iload_n (q := 28) (gDec iX2_faultIn_ok 17 rfl) rfl rfl rfl ?_
      refine go_callV (n2 := 0) (q := 31) kX2_61 (ctX9_signAt (i := i) (by omega)) (gDec iX2_faultIn_ok 18 rfl) rfl rfl (by decide) rfl rfl rfl (Nat.le_of_ble_eq_true rfl) rfl (gFit_rm (by decide) (by decide)) rfl ?_
      refine go_top (v' := σ.1 355 i) (congrFun (hI.1.1 355 (by decide) (by decide) (by decide) (by decide)) i) ?_
      refine go_callV (n2 := 0) (q := 34) kX2_65 (ctX2_accepts (s := s) (p := p) (k := k) hpe (by omega) hke (by omega) hs5 hs) (gDec iX2_faultIn_ok 19 rfl) rfl rfl (by decide) rfl rfl rfl (Nat.le_of_ble_eq_true rfl) rfl (gFit_rm (by decide) (by decide)) rfl ?_
      refine go_if_ne (t := 39) (q := 37) (gDec iX2_faultIn_ok 20 rfl) (by decide) rfl (fun c34 => ?_) (fun c34 => False.elim (hc c34))
      refine go_iinc (v := nI (i + 1)) (q := 42) (gDec iX2_faultIn_ok 23 rfl) rfl (nI_1 i) (by decide) rfl ?_
      refine go_goto (t := 17) (gDec iX2_faultIn_ok 24 rfl) (by decide) ?_
      refine go_sub (L' := [(0, .ref (κ.2.1 + 356)), (1, .ref (κ.2.1 + 353)), (2, .int (nI (i + 1)))]) ⟨rfl, rfl, rfl, trivial⟩ ?_
      exact ih (i + 1) _ (by omega) h1

def gF0 (σ : gST) : gST := gPut (gPut (gPut σ 356 3 0) 356 5 0) 356 6 0
theorem gF0_I (σ : gST) : gFI σ 0 (gF0 σ) :=
  ⟨(((gFx.rf σ).put (by decide) _ _).put (by decide) _ _).put (by decide) _ _, ⟨0, by decide, by simp [gF0, gPut_at]; rfl⟩, ⟨0, by decide, by simp [gF0, gPut_at]; rfl⟩, ⟨0, by decide, by simp [gF0, gPut_at]; rfl⟩⟩

set_option maxHeartbeats 4000000 in
set_option maxRecDepth 100000 in
theorem ctX2_faultIn {κ : gK} {σ : gST} (hT : gTW σ) : gCt κ mX2_faultIn 4 [.ref (κ.2.1 + 356), .ref (κ.2.1 + 353)] σ (.inl (some (.int (gFi (σ.1 355) 0 (gTl σ) (gF0 σ)).1))) (gFi (σ.1 355) 0 (gTl σ) (gF0 σ)).2 0 := by
  refine ct_of (by decide +kernel) rfl (Nat.le_of_ble_eq_true rfl) rfl ?_
  refine go_aload_n (q := 1) (gDec iX2_faultIn_ok 0 rfl) rfl rfl rfl ?_
  refine go_iconst (v := 0) (q := 2) (gDec iX2_faultIn_ok 1 rfl) (by decide) rfl ?_
  refine go_puti (q := 5) fX2_26 gft2 (gDec iX2_faultIn_ok 2 rfl) rfl (by decide) rfl rfl rfl rfl ?_
  refine go_aload_n (q := 6) (gDec iX2_faultIn_ok 3 rfl) rfl rfl rfl ?_
  refine go_iconst (v := 0) (q := 7) (gDec iX2_faultIn_ok 4 rfl) (by decide) rfl ?_
  refine go_puti (q := 10) fX2_33 gft2 (gDec iX2_faultIn_ok 5 rfl) rfl (by decide) rfl rfl rfl rfl ?_
  refine go_aload_n (q := 11) (gDec iX2_faultIn_ok 6 rfl) rfl rfl rfl ?_
  refine go_iconst (v := 0) (q := 12) (gDec iX2_faultIn_ok 7 rfl) (by decide) rfl ?_
  refine go_puti (q := 15) fX2_36 gft2 (gDec iX2_faultIn_ok 8 rfl) rfl (by decide) rfl rfl rfl rfl ?_
  refine go_iconst (v := 0) (q := 16) (gDec iX2_faultIn_ok 9 rfl) (by decide) rfl ?_
  refine go_istore_n (q := 17) (gDec iX2_faultIn_ok 10 rfl) rfl (by decide) rfl ?_
  refine go_sub (L' := [(0, .ref (κ.2.1 + 356)), (1, .ref (κ.2.1 + 353)), (2, .int (nI 0))]) ⟨rfl, rfl, rfl, trivial⟩ ?_
  exact lpX2_faultIn hT (gTl σ) 0 (gF0 σ) (by omega) (gF0_I σ)
