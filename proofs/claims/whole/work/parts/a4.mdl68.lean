/-- only the class's objects on one side, only the model's on the other -/
theorem gAll.cg {τ τ' σ σ' : gST} (h : gAll τ σ) (h1 : ∀ k, k < 376 → τ'.1 k = τ.1 k) (h2 : ∀ k, 376 ≤ k → k < 390 → σ'.1 k = σ.1 k) : gAll τ' σ' := by
  have e353 : τ'.1 353 = τ.1 353 := h1 353 (by decide)
  have e355 : τ'.1 355 = τ.1 355 := h1 355 (by decide)
  have e363 : τ'.1 363 = τ.1 363 := h1 363 (by decide)
  have e365 : τ'.1 365 = τ.1 365 := h1 365 (by decide)
  have et : gTl τ' = gTl τ := by unfold gTl; rw [e353]
  have ep : gPl_ τ' = gPl_ τ := by unfold gPl_; rw [e363]
  have e376 : σ'.1 376 = σ.1 376 := h2 376 (by decide) (by decide)
  refine h.low (fun k _ q2 => h1 k (by omega)) (by rw [h1 0 (by decide)]) ?_ ?_ ?_ ?_ (h2 377 (by decide) (by decide)) (h2 378 (by decide) (by decide)) (h2 379 (by decide) (by decide)) (by rw [e376]) (by rw [e376]) ⟨⟨?_, ?_⟩, ⟨?_, ?_⟩, ?_⟩
  · unfold gTW; rw [e353]; exact h.cb.2.1
  · unfold gPW; rw [e363, e365]; exact h.cb.2.2.1
  · rw [et, e355]; exact h.cb.2.2.2.1
  · rw [ep, e365]; exact h.cb.2.2.2.2
  · rw [e376, e353]; exact h.br.1.1
  · rw [et, e355, h2 380 (by decide) (by decide)]; exact h.br.1.2
  · rw [e376, e363]; exact h.br.2.1.1
  · rw [ep, e365, h2 381 (by decide) (by decide)]; exact h.br.2.1.2
  · rw [e376, h1 0 (by decide)]; exact h.br.2.2
theorem gOo_1 (f : gO × gST) : (gOo f).1 = f.2.1 := by
  unfold gOo
  split <;> rfl
/-- the class called, then the model: both answer alike, and all stays alike -/
def gJS (κ : gK) (m : gM) (args : List Value) (l : List String) (f : gO × gST) (o : gO) : Prop := ∃ s', gCt κ m 9 args (gOo f) o s' 0 ∧ s'.1 376 5 = xC l f.1 ∧ s'.2 = (gOo f).2 ∧ gJ s'
theorem gJ.st {κ : gK} {m : gM} {args : List Value} {l : List String} {f : gO × gST} {o : gO} {σ : gST} (h : gJ σ) (hi : gHi σ f.2) (hok : gAll σ (gOo f) → gOK κ m args (gOo f) o l f) : gJS κ m args l f o := by
  have hm : gAll σ (gOo f) := gAll.cg h (fun _ _ => rfl) (fun k h1 _ => (congrFun (gOo_1 f) k).trans (hi.1 k h1))
  obtain ⟨s', c1, c2, c3, c4⟩ := hok hm
  exact ⟨s', c1, c2, c3.2, gAll.cg c4 (fun k hk => (c3.1 k (Or.inl hk)).trans (congrFun (gOo_1 f) k)) (fun _ _ _ => rfl)⟩
/-- an answer, or an exception of the list -/
def gRi (l : List String) (f : gO × gST) : Prop := (∃ v, f.1 = rI v) ∨ ¬ xC l f.1 = 0

theorem j_addGlyph {κ : gK} {σ : gST} {a1 : Int32} (h : gJ σ) : gJS κ mX11_addGlyph [.ref (κ.2.1 + 376), .int a1] kAS (fAddGlyph σ a1) (rI (aI (fAddGlyph σ a1).1)) :=
  h.st (hi_addGlyph a1 h.cb.1) (fun hm => ok_addGlyph hm)
theorem r_addGlyph {σ : gST} {a1 : Int32} : gRi kAS (fAddGlyph σ a1) := by
  rcases o_addGlyph (σ := σ) (a1 := a1) with h | h | h
  · exact Or.inl h
  · exact Or.inr (by rw [h, xc_AS_A]; decide)
  · exact Or.inr (by rw [h, xc_AS_S]; decide)
theorem j_addContour {κ : gK} {σ : gST} {a1 a2 a3 a4 a5 : Int32} (h : gJ σ) : gJS κ mX11_addContour [.ref (κ.2.1 + 376), .int a1, .int a2, .int a3, .int a4, .int a5] kOAS (fAddContour σ a1 a2 a3 a4 a5) (rI (aI (fAddContour σ a1 a2 a3 a4 a5).1)) :=
  h.st (hi_addContour a1 a2 a3 a4 a5 h.cb.1) (fun hm => ok_addContour hm)
theorem r_addContour {σ : gST} {a1 a2 a3 a4 a5 : Int32} : gRi kOAS (fAddContour σ a1 a2 a3 a4 a5) := by
  rcases o_addContour (σ := σ) (a1 := a1) (a2 := a2) (a3 := a3) (a4 := a4) (a5 := a5) with h | h | h | h
  · exact Or.inl h
  · exact Or.inr (by rw [h, xc_OAS_O]; decide)
  · exact Or.inr (by rw [h, xc_OAS_A]; decide)
  · exact Or.inr (by rw [h, xc_OAS_S]; decide)
theorem j_movePoint {κ : gK} {σ : gST} {a1 a2 a3 a4 a5 : Int32} (h : gJ σ) : gJS κ mX11_movePoint [.ref (κ.2.1 + 376), .int a1, .int a2, .int a3, .int a4, .int a5] kOA (fMovePoint σ a1 a2 a3 a4 a5) (rI (aI (fMovePoint σ a1 a2 a3 a4 a5).1)) :=
  h.st (hi_movePoint a1 a2 a3 a4 a5 h.cb.1) (fun hm => ok_movePoint hm)
theorem r_movePoint {σ : gST} {a1 a2 a3 a4 a5 : Int32} : gRi kOA (fMovePoint σ a1 a2 a3 a4 a5) := by
  rcases o_movePoint (σ := σ) (a1 := a1) (a2 := a2) (a3 := a3) (a4 := a4) (a5 := a5) with h | h | h
  · exact Or.inl h
  · exact Or.inr (by rw [h, xc_OA_O]; decide)
  · exact Or.inr (by rw [h, xc_OA_A]; decide)
theorem j_shift {κ : gK} {σ : gST} {a1 a2 a3 : Int32} (h : gJ σ) : gJS κ mX11_shift [.ref (κ.2.1 + 376), .int a1, .int a2, .int a3] kOA (fShift σ a1 a2 a3) (rI (aI (fShift σ a1 a2 a3).1)) :=
  h.st (hi_shift a1 a2 a3 h.cb.1) (fun hm => ok_shift hm)
theorem r_shift {σ : gST} {a1 a2 a3 : Int32} : gRi kOA (fShift σ a1 a2 a3) := by
  rcases o_shift (σ := σ) (a1 := a1) (a2 := a2) (a3 := a3) with h | h | h
  · exact Or.inl h
  · exact Or.inr (by rw [h, xc_OA_O]; decide)
  · exact Or.inr (by rw [h, xc_OA_A]; decide)
theorem j_glyph {κ : gK} {σ : gST} {a1 a2 : Int32} (h : gJ σ) : gJS κ mX11_glyph [.ref (κ.2.1 + 376), .int a1, .int a2] kOA (fGlyph σ a1 a2) (rI (aI (fGlyph σ a1 a2).1)) := by
  have e : (fGlyph σ a1 a2).2 = σ := by
    unfold fGlyph
    repeat' split
    all_goals rfl
  exact h.st (by rw [e]; exact gHi.rf σ) (fun hm => gOK.rd hm e (ctX11_glyph hm.ci hm.mr))
theorem r_glyph {σ : gST} {a1 a2 : Int32} : gRi kOA (fGlyph σ a1 a2) := by
  rcases o_glyph (σ := σ) (a1 := a1) (a2 := a2) with h | h | h
  · exact Or.inl h
  · exact Or.inr (by rw [h, xc_OA_O]; decide)
  · exact Or.inr (by rw [h, xc_OA_A]; decide)
theorem j_find {κ : gK} {σ : gST} {a1 : Int32} (h : gJ σ) : gJS κ mX11_find [.ref (κ.2.1 + 376), .int a1] kN (fFind σ a1) (rI (aI (fFind σ a1).1)) := by
  have e : (fFind σ a1).2 = σ := by
    unfold fFind
    repeat' split
    all_goals rfl
  exact h.st (by rw [e]; exact gHi.rf σ) (fun hm => gOK.rd hm e (ctX11_find hm.ci hm.mr))
theorem r_find {σ : gST} {a1 : Int32} : gRi kN (fFind σ a1) := by
  rcases o_find (σ := σ) (a1 := a1) with h | h
  · exact Or.inl h
  · exact Or.inr (by rw [h, xc_N_N]; decide)
theorem j_points {κ : gK} {σ : gST} {a1 a2 : Int32} (h : gJ σ) : gJS κ mX11_points [.ref (κ.2.1 + 376), .int a1, .int a2] kO (fPoints σ a1 a2) (rI (aI (fPoints σ a1 a2).1)) := by
  have e : (fPoints σ a1 a2).2 = σ := by
    unfold fPoints
    repeat' split
    all_goals rfl
  exact h.st (by rw [e]; exact gHi.rf σ) (fun hm => gOK.rd hm e (ctX11_points hm.ci hm.mr))
theorem r_points {σ : gST} {a1 a2 : Int32} : gRi kO (fPoints σ a1 a2) := by
  rcases o_points (σ := σ) (a1 := a1) (a2 := a2) with h | h
  · exact Or.inl h
  · exact Or.inr (by rw [h, xc_O_O]; decide)
theorem j_point {κ : gK} {σ : gST} {a1 a2 a3 a4 : Int32} (h : gJ σ) : gJS κ mX11_point [.ref (κ.2.1 + 376), .int a1, .int a2, .int a3, .int a4] kO (fPoint σ a1 a2 a3 a4) (rI (aI (fPoint σ a1 a2 a3 a4).1)) := by
  have e : (fPoint σ a1 a2 a3 a4).2 = σ := by
    unfold fPoint
    repeat' split
    all_goals rfl
  exact h.st (by rw [e]; exact gHi.rf σ) (fun hm => gOK.rd hm e (ctX11_point hm.ci hm.mr))
theorem r_point {σ : gST} {a1 a2 a3 a4 : Int32} : gRi kO (fPoint σ a1 a2 a3 a4) := by
  rcases o_point (σ := σ) (a1 := a1) (a2 := a2) (a3 := a3) (a4 := a4) with h | h
  · exact Or.inl h
  · exact Or.inr (by rw [h, xc_O_O]; decide)
theorem j_area {κ : gK} {σ : gST} {a1 a2 : Int32} (h : gJ σ) : gJS κ mX11_area [.ref (κ.2.1 + 376), .int a1, .int a2] kO (fArea σ a1 a2) (rI (aI (fArea σ a1 a2).1)) := by
  have e : (fArea σ a1 a2).2 = σ := by
    unfold fArea
    repeat' split
    all_goals rfl
  exact h.st (by rw [e]; exact gHi.rf σ) (fun hm => gOK.rd hm e (ctX11_area hm.ci hm.mr))
theorem r_area {σ : gST} {a1 a2 : Int32} : gRi kO (fArea σ a1 a2) := by
  rcases o_area (σ := σ) (a1 := a1) (a2 := a2) with h | h
  · exact Or.inl h
  · exact Or.inr (by rw [h, xc_O_O]; decide)
theorem j_setSide {κ : gK} {σ : gST} {a1 a2 a3 : Int32} (h : gJ σ) : gJS κ mX11_setSide [.ref (κ.2.1 + 376), .int a1, .int a2, .int a3] kOA (fSetSide σ a1 a2 a3) (rI (aI (fSetSide σ a1 a2 a3).1)) :=
  h.st (hi_setSide a1 a2 a3 h.cb.1) (fun hm => ok_setSide hm)
theorem r_setSide {σ : gST} {a1 a2 a3 : Int32} : gRi kOA (fSetSide σ a1 a2 a3) := by
  rcases o_setSide (σ := σ) (a1 := a1) (a2 := a2) (a3 := a3) with h | h | h
  · exact Or.inl h
  · exact Or.inr (by rw [h, xc_OA_O]; decide)
  · exact Or.inr (by rw [h, xc_OA_A]; decide)
theorem j_follow {κ : gK} {σ : gST} {a1 a2 a3 a4 a5 : Int32} (h : gJ σ) : gJS κ mX11_follow [.ref (κ.2.1 + 376), .int a1, .int a2, .int a3, .int a4, .int a5] kOAU (fFollow σ a1 a2 a3 a4 a5) (rI (aI (fFollow σ a1 a2 a3 a4 a5).1)) :=
  h.st (hi_follow a1 a2 a3 a4 a5 h.cb.1) (fun hm => ok_follow hm)
theorem r_follow {σ : gST} {a1 a2 a3 a4 a5 : Int32} : gRi kOAU (fFollow σ a1 a2 a3 a4 a5) := by
  rcases o_follow (σ := σ) (a1 := a1) (a2 := a2) (a3 := a3) (a4 := a4) (a5 := a5) with h | h | h | h
  · exact Or.inl h
  · exact Or.inr (by rw [h, xc_OAU_O]; decide)
  · exact Or.inr (by rw [h, xc_OAU_A]; decide)
  · exact Or.inr (by rw [h, xc_OAU_U]; decide)
theorem j_side {κ : gK} {σ : gST} {a1 a2 a3 : Int32} (h : gJ σ) : gJS κ mX11_side [.ref (κ.2.1 + 376), .int a1, .int a2, .int a3] kOA (fSide σ a1 a2 a3) (rI (aI (fSide σ a1 a2 a3).1)) := by
  have e : (fSide σ a1 a2 a3).2 = σ := by
    unfold fSide
    repeat' split
    all_goals rfl
  exact h.st (by rw [e]; exact gHi.rf σ) (fun hm => gOK.rd hm e (ctX11_side hm.ci hm.mr))
theorem r_side {σ : gST} {a1 a2 a3 : Int32} : gRi kOA (fSide σ a1 a2 a3) := by
  rcases o_side (σ := σ) (a1 := a1) (a2 := a2) (a3 := a3) with h | h | h
  · exact Or.inl h
  · exact Or.inr (by rw [h, xc_OA_O]; decide)
  · exact Or.inr (by rw [h, xc_OA_A]; decide)
theorem j_followers {κ : gK} {σ : gST} {a1 a2 : Int32} (h : gJ σ) : gJS κ mX11_followers [.ref (κ.2.1 + 376), .int a1, .int a2] kO (fFollowers σ a1 a2) (rI (aI (fFollowers σ a1 a2).1)) := by
  have e : (fFollowers σ a1 a2).2 = σ := by
    unfold fFollowers
    repeat' split
    all_goals rfl
  exact h.st (by rw [e]; exact gHi.rf σ) (fun hm => gOK.rd hm e (ctX11_followers hm.ci hm.mr))
theorem r_followers {σ : gST} {a1 a2 : Int32} : gRi kO (fFollowers σ a1 a2) := by
  rcases o_followers (σ := σ) (a1 := a1) (a2 := a2) with h | h
  · exact Or.inl h
  · exact Or.inr (by rw [h, xc_O_O]; decide)
theorem j_setClass {κ : gK} {σ : gST} {a1 a2 a3 : Int32} (hb : g01 a2) (h : gJ σ) : gJS κ mX11_setClass [.ref (κ.2.1 + 376), .int a1, .int a2, .int a3] kOA (fSetClass σ a1 a2 a3) (rI (aI (fSetClass σ a1 a2 a3).1)) :=
  h.st (hi_setClass a1 a2 a3 h.cb.1) (fun hm => ok_setClass hb hm)
theorem r_setClass {σ : gST} {a1 a2 a3 : Int32} : gRi kOA (fSetClass σ a1 a2 a3) := by
  rcases o_setClass (σ := σ) (a1 := a1) (a2 := a2) (a3 := a3) with h | h | h
  · exact Or.inl h
  · exact Or.inr (by rw [h, xc_OA_O]; decide)
  · exact Or.inr (by rw [h, xc_OA_A]; decide)
theorem j_kernClasses {κ : gK} {σ : gST} {a1 a2 a3 : Int32} (h : gJ σ) : gJS κ mX11_kernClasses [.ref (κ.2.1 + 376), .int a1, .int a2, .int a3] kOA (fKernClasses σ a1 a2 a3) (rI (aI (fKernClasses σ a1 a2 a3).1)) :=
  h.st (hi_kernClasses a1 a2 a3 h.cb.1) (fun hm => ok_kernClasses hm)
theorem r_kernClasses {σ : gST} {a1 a2 a3 : Int32} : gRi kOA (fKernClasses σ a1 a2 a3) := by
  rcases o_kernClasses (σ := σ) (a1 := a1) (a2 := a2) (a3 := a3) with h | h | h
  · exact Or.inl h
  · exact Or.inr (by rw [h, xc_OA_O]; decide)
  · exact Or.inr (by rw [h, xc_OA_A]; decide)
theorem j_kernPair {κ : gK} {σ : gST} {a1 a2 a3 : Int32} (h : gJ σ) : gJS κ mX11_kernPair [.ref (κ.2.1 + 376), .int a1, .int a2, .int a3] kOAS (fKernPair σ a1 a2 a3) (rI (aI (fKernPair σ a1 a2 a3).1)) :=
  h.st (hi_kernPair a1 a2 a3 h.cb.1) (fun hm => ok_kernPair hm)
theorem r_kernPair {σ : gST} {a1 a2 a3 : Int32} : gRi kOAS (fKernPair σ a1 a2 a3) := by
  rcases o_kernPair (σ := σ) (a1 := a1) (a2 := a2) (a3 := a3) with h | h | h | h
  · exact Or.inl h
  · exact Or.inr (by rw [h, xc_OAS_O]; decide)
  · exact Or.inr (by rw [h, xc_OAS_A]; decide)
  · exact Or.inr (by rw [h, xc_OAS_S]; decide)
theorem j_dropKern {κ : gK} {σ : gST} {a1 a2 a3 : Int32} (h : gJ σ) : gJS κ mX11_dropKern [.ref (κ.2.1 + 376), .int a1, .int a2, .int a3] kN (fDropKern σ a1 a2 a3) (rI (aI (fDropKern σ a1 a2 a3).1)) :=
  h.st (hi_dropKern a1 a2 a3 h.cb.1) (fun hm => ok_dropKern hm)
theorem r_dropKern {σ : gST} {a1 a2 a3 : Int32} : gRi kN (fDropKern σ a1 a2 a3) := by
  rcases o_dropKern (σ := σ) (a1 := a1) (a2 := a2) (a3 := a3) with h | h
  · exact Or.inl h
  · exact Or.inr (by rw [h, xc_N_N]; decide)
theorem j_kern {κ : gK} {σ : gST} {a1 a2 : Int32} (h : gJ σ) : gJS κ mX11_kern [.ref (κ.2.1 + 376), .int a1, .int a2] kO (fKern σ a1 a2) (rI (aI (fKern σ a1 a2).1)) := by
  have e : (fKern σ a1 a2).2 = σ := by
    unfold fKern
    repeat' split
    all_goals rfl
  exact h.st (by rw [e]; exact gHi.rf σ) (fun hm => gOK.rd hm e (ctX11_kern hm.ci hm.mr))
theorem r_kern {σ : gST} {a1 a2 : Int32} : gRi kO (fKern σ a1 a2) := by
  rcases o_kern (σ := σ) (a1 := a1) (a2 := a2) with h | h
  · exact Or.inl h
  · exact Or.inr (by rw [h, xc_O_O]; decide)
theorem j_why {κ : gK} {σ : gST} {a1 a2 : Int32} (h : gJ σ) : gJS κ mX11_why [.ref (κ.2.1 + 376), .int a1, .int a2] kO (fWhy σ a1 a2) (rI (aI (fWhy σ a1 a2).1)) := by
  have e : (fWhy σ a1 a2).2 = σ := by
    unfold fWhy
    repeat' split
    all_goals rfl
  exact h.st (by rw [e]; exact gHi.rf σ) (fun hm => gOK.rd hm e (ctX11_why hm.ci hm.mr))
theorem r_why {σ : gST} {a1 a2 : Int32} : gRi kO (fWhy σ a1 a2) := by
  rcases o_why (σ := σ) (a1 := a1) (a2 := a2) with h | h
  · exact Or.inl h
  · exact Or.inr (by rw [h, xc_O_O]; decide)
theorem j_addStem {κ : gK} {σ : gST} {a1 a2 a3 : Int32} (h : gJ σ) : gJS κ mX11_addStem [.ref (κ.2.1 + 376), .int a1, .int a2, .int a3] kOAS (fAddStem σ a1 a2 a3) (rI (aI (fAddStem σ a1 a2 a3).1)) :=
  h.st (hi_addStem a1 a2 a3 h.cb.1) (fun hm => ok_addStem hm)
theorem r_addStem {σ : gST} {a1 a2 a3 : Int32} : gRi kOAS (fAddStem σ a1 a2 a3) := by
  rcases o_addStem (σ := σ) (a1 := a1) (a2 := a2) (a3 := a3) with h | h | h | h
  · exact Or.inl h
  · exact Or.inr (by rw [h, xc_OAS_O]; decide)
  · exact Or.inr (by rw [h, xc_OAS_A]; decide)
  · exact Or.inr (by rw [h, xc_OAS_S]; decide)
theorem j_removeStem {κ : gK} {σ : gST} {a1 a2 : Int32} (h : gJ σ) : gJS κ mX11_removeStem [.ref (κ.2.1 + 376), .int a1, .int a2] kO (fRemoveStem σ a1 a2) (rI (aI (fRemoveStem σ a1 a2).1)) :=
  h.st (hi_removeStem a1 a2 h.cb.1) (fun hm => ok_removeStem hm)
theorem r_removeStem {σ : gST} {a1 a2 : Int32} : gRi kO (fRemoveStem σ a1 a2) := by
  rcases o_removeStem (σ := σ) (a1 := a1) (a2 := a2) with h | h
  · exact Or.inl h
  · exact Or.inr (by rw [h, xc_O_O]; decide)
theorem j_stem {κ : gK} {σ : gST} {a1 a2 a3 : Int32} (h : gJ σ) : gJS κ mX11_stem [.ref (κ.2.1 + 376), .int a1, .int a2, .int a3] kO (fStem σ a1 a2 a3) (rI (aI (fStem σ a1 a2 a3).1)) := by
  have e : (fStem σ a1 a2 a3).2 = σ := by
    unfold fStem
    repeat' split
    all_goals rfl
  exact h.st (by rw [e]; exact gHi.rf σ) (fun hm => gOK.rd hm e (ctX11_stem hm.ci hm.mr))
theorem r_stem {σ : gST} {a1 a2 a3 : Int32} : gRi kO (fStem σ a1 a2 a3) := by
  rcases o_stem (σ := σ) (a1 := a1) (a2 := a2) (a3 := a3) with h | h
  · exact Or.inl h
  · exact Or.inr (by rw [h, xc_O_O]; decide)
theorem j_place {κ : gK} {σ : gST} {a1 a2 a3 : Int32} (h : gJ σ) : gJS κ mX11_place [.ref (κ.2.1 + 376), .int a1, .int a2, .int a3] kOA (fPlace σ a1 a2 a3) (rI (aI (fPlace σ a1 a2 a3).1)) := by
  have e : (fPlace σ a1 a2 a3).2 = σ := by
    unfold fPlace
    repeat' split
    all_goals rfl
  exact h.st (by rw [e]; exact gHi.rf σ) (fun hm => gOK.rd hm e (ctX11_place hm.ci hm.mr))
theorem r_place {σ : gST} {a1 a2 a3 : Int32} : gRi kOA (fPlace σ a1 a2 a3) := by
  rcases o_place (σ := σ) (a1 := a1) (a2 := a2) (a3 := a3) with h | h | h
  · exact Or.inl h
  · exact Or.inr (by rw [h, xc_OA_O]; decide)
  · exact Or.inr (by rw [h, xc_OA_A]; decide)
theorem j_isBlack {κ : gK} {σ : gST} {a1 a2 a3 a4 : Int32} (h : gJ σ) : gJS κ mX11_isBlack [.ref (κ.2.1 + 376), .int a1, .int a2, .int a3, .int a4] kOA (fIsBlack σ a1 a2 a3 a4) (rI (aI (fIsBlack σ a1 a2 a3 a4).1)) := by
  have e : (fIsBlack σ a1 a2 a3 a4).2 = σ := by
    unfold fIsBlack
    repeat' split
    all_goals rfl
  exact h.st (by rw [e]; exact gHi.rf σ) (fun hm => gOK.rd hm e (ctX11_isBlack hm.ci hm.mr))
theorem j_blackPixels {κ : gK} {σ : gST} {a1 a2 : Int32} (h : gJ σ) : gJS κ mX11_blackPixels [.ref (κ.2.1 + 376), .int a1, .int a2] kOA (fBlackPixels σ a1 a2) (rI (aI (fBlackPixels σ a1 a2).1)) := by
  have e : (fBlackPixels σ a1 a2).2 = σ := by
    unfold fBlackPixels
    repeat' split
    all_goals rfl
  exact h.st (by rw [e]; exact gHi.rf σ) (fun hm => gOK.rd hm e (ctX11_blackPixels hm.ci hm.mr))
theorem r_blackPixels {σ : gST} {a1 a2 : Int32} : gRi kOA (fBlackPixels σ a1 a2) := by
  rcases o_blackPixels (σ := σ) (a1 := a1) (a2 := a2) with h | h | h
  · exact Or.inl h
  · exact Or.inr (by rw [h, xc_OA_O]; decide)
  · exact Or.inr (by rw [h, xc_OA_A]; decide)
theorem j_setProof {κ : gK} {σ : gST} {a1 a2 : Int32} (h : gJ σ) : gJS κ mX11_setProof [.ref (κ.2.1 + 376), .int a1, .int a2] kA (fSetProof σ a1 a2) (rI (aI (fSetProof σ a1 a2).1)) :=
  h.st (hi_setProof a1 a2 h.cb.1) (fun hm => ok_setProof hm)
theorem r_setProof {σ : gST} {a1 a2 : Int32} : gRi kA (fSetProof σ a1 a2) := by
  rcases o_setProof (σ := σ) (a1 := a1) (a2 := a2) with h | h
  · exact Or.inl h
  · exact Or.inr (by rw [h, xc_A_A]; decide)
theorem j_append {κ : gK} {σ : gST} {a1 : Int32} (hc : 0 ≤ a1.toInt ∧ a1.toInt ≤ 65535) (h : gJ σ) : gJS κ mX11_append [.ref (κ.2.1 + 376), .int a1] kS (fAppend σ a1) (.inl none) :=
  h.st (hi_append a1 ) (fun hm => ok_append hm hc)
theorem j_takeProof {κ : gK} {σ : gST} (h : gJ σ) : gJS κ mX11_takeProof [.ref (κ.2.1 + 376)] kA (fTakeProof σ) (rI (aI (fTakeProof σ).1)) :=
  h.st (hi_takeProof  ) (fun hm => ok_takeProof hm)
theorem r_takeProof {σ : gST} : gRi kA (fTakeProof σ) := by
  rcases o_takeProof (σ := σ) with h | h
  · exact Or.inl h
  · exact Or.inr (by rw [h, xc_A_A]; decide)
theorem j_proofWidth {κ : gK} {σ : gST} (h : gJ σ) : gJS κ mX11_proofWidth [.ref (κ.2.1 + 376)] kN (fProofWidth σ) (rI (aI (fProofWidth σ).1)) :=
  h.st (hi_proofWidth  ) (fun hm => ok_proofWidth hm)
theorem r_proofWidth {σ : gST} : gRi kN (fProofWidth σ) := by
  rcases o_proofWidth (σ := σ) with h | h
  · exact Or.inl h
  · exact Or.inr (by rw [h, xc_N_N]; decide)
theorem j_position {κ : gK} {σ : gST} {a1 : Int32} (h : gJ σ) : gJS κ mX11_position [.ref (κ.2.1 + 376), .int a1] kN (fPosition σ a1) (rI (aI (fPosition σ a1).1)) :=
  h.st (hi_position a1 ) (fun hm => ok_position hm)
theorem r_position {σ : gST} {a1 : Int32} : gRi kN (fPosition σ a1) := by
  rcases o_position (σ := σ) (a1 := a1) with h | h
  · exact Or.inl h
  · exact Or.inr (by rw [h, xc_N_N]; decide)
theorem j_lines {κ : gK} {σ : gST} {a1 : Int32} (h : gJ σ) : gJS κ mX11_lines [.ref (κ.2.1 + 376), .int a1] kA (fLines σ a1) (rI (aI (fLines σ a1).1)) :=
  h.st (hi_lines a1 ) (fun hm => ok_lines hm)
theorem r_lines {σ : gST} {a1 : Int32} : gRi kA (fLines σ a1) := by
  rcases o_lines (σ := σ) (a1 := a1) with h | h
  · exact Or.inl h
  · exact Or.inr (by rw [h, xc_A_A]; decide)
theorem j_line {κ : gK} {σ : gST} {a1 a2 a3 : Int32} (h : gJ σ) : gJS κ mX11_line [.ref (κ.2.1 + 376), .int a1, .int a2, .int a3] kAN (fLine σ a1 a2 a3) (rI (aI (fLine σ a1 a2 a3).1)) :=
  h.st (hi_line a1 a2 a3 ) (fun hm => ok_line hm)
theorem r_line {σ : gST} {a1 a2 a3 : Int32} : gRi kAN (fLine σ a1 a2 a3) := by
  rcases o_line (σ := σ) (a1 := a1) (a2 := a2) (a3 := a3) with h | h | h
  · exact Or.inl h
  · exact Or.inr (by rw [h, xc_AN_A]; decide)
  · exact Or.inr (by rw [h, xc_AN_N]; decide)
theorem j_leastMeasure {κ : gK} {σ : gST} {a1 : Int32} (h : gJ σ) : gJS κ mX11_leastMeasure [.ref (κ.2.1 + 376), .int a1] kAN (fLeast σ a1) (rI (aI (fLeast σ a1).1)) :=
  h.st (hi_least a1 ) (fun hm => ok_leastMeasure hm)
theorem r_leastMeasure {σ : gST} {a1 : Int32} : gRi kAN (fLeast σ a1) := by
  rcases o_leastMeasure (σ := σ) (a1 := a1) with h | h | h
  · exact Or.inl h
  · exact Or.inr (by rw [h, xc_AN_A]; decide)
  · exact Or.inr (by rw [h, xc_AN_N]; decide)
theorem j_meanAdvance {κ : gK} {σ : gST} (h : gJ σ) : gJS κ mX11_meanAdvance [.ref (κ.2.1 + 376)] kR (fMean σ) (.inl (some (.double (aD (fMean σ).1)))) := by
  have e : (fMean σ).2 = σ := by
    unfold fMean
    repeat' split
    all_goals rfl
  exact h.st (by rw [e]; exact gHi.rf σ) (fun hm => gOK.rd hm e (ctX11_meanAdvance hm.ci hm.mr (fun h0 => gMean_n h0 hm.ci.dw.ng24)))
theorem j_account {κ : gK} {σ : gST} {a1 : Int32} (h : gJ σ) : gJS κ mX11_account [.ref (κ.2.1 + 376), .int a1] kA (fAccount σ a1) (rI (aI (fAccount σ a1).1)) := by
  have e : (fAccount σ a1).2 = σ := by
    unfold fAccount
    repeat' split
    all_goals rfl
  exact h.st (by rw [e]; exact gHi.rf σ) (fun hm => gOK.rd hm e (ctX11_account hm.ci hm.mr))
theorem r_account {σ : gST} {a1 : Int32} : gRi kA (fAccount σ a1) := by
  rcases o_account (σ := σ) (a1 := a1) with h | h
  · exact Or.inl h
  · exact Or.inr (by rw [h, xc_A_A]; decide)
theorem j_readGlyph {κ : gK} {σ : gST} (h : gJ σ) : gJS κ mX11_readGlyph [.ref (κ.2.1 + 376)] kAS (fRead σ) (rI (aI (fRead σ).1)) :=
  h.st (hi_readGlyph  h.cb.1) (fun hm => ok_readGlyph hm)
theorem r_readGlyph {σ : gST} : gRi kAS (fRead σ) := by
  rcases o_readGlyph (σ := σ) with h | h | h
  · exact Or.inl h
  · exact Or.inr (by rw [h, xc_AS_A]; decide)
  · exact Or.inr (by rw [h, xc_AS_S]; decide)
theorem j_undo {κ : gK} {σ : gST} (h : gJ σ) : gJS κ mX11_undo [.ref (κ.2.1 + 376)] kS (fUndo σ) (rI (aI (fUndo σ).1)) :=
  h.st (hi_undo  ) (fun hm => ok_undo hm)
theorem r_undo {σ : gST} : gRi kS (fUndo σ) := by
  rcases o_undo (σ := σ) with h | h
  · exact Or.inl h
  · exact Or.inr (by rw [h, xc_S_S]; decide)
theorem j_restore {κ : gK} {σ : gST} (h : gJ σ) : gJS κ mX11_restore [.ref (κ.2.1 + 376)] kS (fRestore σ) (.inl none) :=
  h.st (hi_restore  ) (fun hm => ok_restore hm)
theorem j_save {κ : gK} {σ : gST} (h : gJ σ) : gJS κ mX11_save [.ref (κ.2.1 + 376)] kS (fSave σ) (.inl none) :=
  h.st (hi_save  ) (fun hm => ok_save hm)
theorem j_fault {κ : gK} {σ : gST} (h : gJ σ) : gCt κ mX11_faultPosition 0 [.ref (κ.2.1 + 376)] σ (rI (σ.1 0 7)) (gPut σ 376 5 0) 0 ∧ gJ (gPut σ 376 5 0) := by
  refine ⟨?_, gAll.cg (gAll.thr h 0) (fun k hk => gPut_ne _ _ _ (by omega)) (fun _ _ _ => rfl)⟩
  have e : σ.1 376 21 = σ.1 0 7 := h.br.2.2
  rw [← e]
  exact ctX11_faultPosition
section LH
variable {κ : gK} {M : gM} {R : Room} {Z : gZ} {pc q : Nat} {L : gL} {st : List Value} {σ : gST} {n : Nat}
/-- a static method with handlers -/
theorem go_callH {idx np d' k1 n2 : Nat} {M' : gM} {As rest st0 : List Value} {v : Option Value} {σ1 : gST} {x : Nat × Nat × Nat × Nat} {xs : List (Nat × Nat × Nat × Nat)}
    (hm : gMSHk M.1.cls idx M' np) (hh : M'.2.2.2.2 = x :: xs) (hC : gCt κ M' d' As σ (.inl v) σ1 k1) (hd : decode M.2.1 pc = .ok (.invokestatic idx, 3)) (hst : st0 = As.reverse ++ rest)
    (hnp : As.length = np) (hW : (rest.map fun v => v.category).sum ≤ 8) (hn : n + k1 = n2) (hfit : gFit R d' n2) (hq : pc + 3 = q) (kk : Go κ M R Z q L (v.toList ++ rest) σ1 n2) : Go κ M R Z pc L st0 σ n := by
  subst hq; subst hn
  intro p e s m args below meth c H locs ls C hP hS hl
  obtain ⟨y, bytes, maxL, ret, hs⟩ := M'
  dsimp only at hh
  subst hh
  refine gRun_ret (a := As.toArray) ?_ hS (fun H1 locs1 hP1 hS1 => kk p e s m args below meth c H1 locs1 ls C hP1 hS1 hl)
  obtain ⟨hx, hb, -, hml, hown, -, -, hG⟩ := C
  obtain ⟨h1, h2, h4, h5, h6, h7⟩ := hm
  have hts : ∀ w ∈ gTg, w.before args s = true := fun w hw => hG.word hw
  have hgi : GoodIn gTg (va_wsS M.1.cls idx y (gWs (y, bytes, maxL, ret, x :: xs))) := by
    intro w hw
    rcases List.mem_append.mp hw with e | e
    · rcases List.mem_cons.mp e with e | e
      · rw [e]; exact h1.good
      · rcases List.mem_cons.mp e with e | e
        · rw [e]; exact h2.good
        · rw [List.mem_singleton.mp e]; exact h4.good
    · exact gWs_good h5 w e
  refine vx_runSX (hh := x :: xs) (As := As) (rest := rest) (Ts := gTg) ⟨hx, hb, hml, hown, hts⟩ hC (vx_cwSW (bytes := bytes) (maxL := maxL) (ret := ret) (ws' := gTg) np hts hgi rfl rfl rfl ⟨h6.1, h6.2.1, h6.2.2⟩ ⟨hfit.1, ?_⟩) ⟨gPc_blind κ _ σ, fun U hU hW9 => ⟨rfl, hG.moveA hS hU hW9, by rw [hU]; exact hP⟩⟩ rfl hnp hl.1 hst (lv_room hW) hd ⟨hfit.2.2.1, by rw [← Nat.mul_add]; exact hfit.2.2.2⟩
  show 8 + (maxL + 11) + 64 * d' ≤ R.locals
  have h8 : maxL ≤ 45 := h7
  have := hfit.2.1
  omega
end LH