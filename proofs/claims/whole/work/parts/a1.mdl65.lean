/-! the class leaves the model's objects and the law's own alone -/
def gHi (σ σ' : gST) : Prop := (∀ k, 376 ≤ k → σ'.1 k = σ.1 k) ∧ σ'.2 = σ.2
theorem gHi.rf (σ : gST) : gHi σ σ := ⟨fun _ _ => rfl, rfl⟩
theorem gHi.p {σ a : gST} (h : gHi σ a) {k : Nat} (i : Nat) (v : Int32) (hk : k < 376) : gHi σ (gPut a k i v) := ⟨fun j hj => (gPut_ne _ _ _ (by omega)).trans (h.1 j hj), h.2⟩
theorem gHi.sa {σ a : gST} (h : gHi σ a) {k : Nat} (f : Nat → Int32) (hk : k < 376) : gHi σ (gSA a.1 k f, a.2) := ⟨fun j hj => (gSA_ne _ _ (by omega)).trans (h.1 j hj), h.2⟩
theorem gHi.tr {σ τ υ : gST} (h : gHi σ τ) (h2 : gHi τ υ) : gHi σ υ := ⟨fun k hk => (h2.1 k hk).trans (h.1 k hk), h2.2.trans h.2⟩
theorem gHi.dc {l : gCpL} {σ a : gST} (h : gHi σ a) {o o2 : Nat} (ho : o + 35 ≤ 376) : gHi σ (gDc l a o o2) := ⟨fun k hk => (funext (fun i => gDc_out (Or.inr (by omega)) i)).trans (h.1 k hk), h.2⟩
theorem gHi.loop {σ : gST} {step : Nat → gST → gST} (hs : ∀ i a, gHi σ a → gHi σ (step i a)) (m i : Nat) {a : gST} (h : gHi σ a) : gHi σ (gLoop step i m a) := gLoop_inv (I := gHi σ) hs m i a h
theorem gHi.rem {σ : gST} (hH : gHW σ) : gHi σ (gRem σ) := by
  have h1 : nA (σ.1 71 1) ≤ 7 := nA_le hH.1.2
  unfold gRem
  exact (((gHi.rf σ).dc (by omega)).p _ _ (by decide)).p _ _ (by decide)
theorem gHi.set (σ : gST) : gHi σ (gSet σ) := ⟨fun k hk => (gSet_k σ).1 k (by omega) (by omega) (by omega), (gSet_k σ).2.2.2.1⟩
theorem gHi.la {σ a b : gST} (h : gHi σ a) (h2 : gLA a b) : gHi σ b := ⟨fun k hk => (h2.1 k (by omega) (by omega) (by omega) (by omega)).trans (h.1 k hk), h2.2.2.trans h.2⟩

theorem hi_addGlyph {σ : gST} (c : Int32) (hH : gHW σ) : gHi σ (fAddGlyph σ c).2 := by
  unfold fAddGlyph
  repeat' split
  all_goals first | exact gHi.rf σ | exact (((gHi.rem hH).p _ _ (by decide)).p _ _ (by decide))
theorem hi_box {σ : gST} (g c : Nat) (l b r t : Int32) : gHi σ (gBox σ g c l b r t) := by
  unfold gBox
  dsimp only
  exact (((((((((((((((gHi.rf σ).p _ _ (by decide)).p _ _ (by decide)).p _ _ (by decide)).p _ _ (by decide)).p _ _ (by decide)).p _ _ (by decide)).p _ _ (by decide)).p _ _ (by decide)).p _ _ (by decide)).p _ _ (by decide)).p _ _ (by decide)).p _ _ (by decide)).p _ _ (by decide)).p _ _ (by decide))
theorem hi_addContour {σ : gST} (g x y w h : Int32) (hH : gHW σ) : gHi σ (fAddContour σ g x y w h).2 := by
  unfold fAddContour
  repeat' split
  all_goals first | exact gHi.rf σ | exact (gHi.rem hH).tr (hi_box _ _ _ _ _ _)
theorem hi_movePoint {σ : gST} (g c p dx dy : Int32) (hH : gHW σ) : gHi σ (fMovePoint σ g c p dx dy).2 := by
  unfold fMovePoint
  repeat' split
  all_goals first | exact gHi.rf σ | exact (((gHi.rem hH).p _ _ (by decide)).p _ _ (by decide))
theorem hi_shW {σ : gST} (hH : gHW σ) (g : Nat) (dx dy : Int32) : gHi σ (gShW σ g dx dy) := by
  unfold gShW
  refine gHi.loop (fun c a ha => ?_) _ _ (gHi.rem hH)
  unfold gMvC
  refine gHi.loop (fun p a ha => ?_) _ _ ha
  unfold gMv
  exact (ha.p _ _ (by decide)).p _ _ (by decide)
theorem hi_shift {σ : gST} (g dx dy : Int32) (hH : gHW σ) : gHi σ (fShift σ g dx dy).2 := by
  unfold fShift
  repeat' split
  all_goals first | exact gHi.rf σ | exact hi_shW hH _ _ _
theorem hi_setSide {σ : gST} (g s v : Int32) (hH : gHW σ) : gHi σ (fSetSide σ g s v).2 := by
  unfold fSetSide
  repeat' split
  all_goals first | exact gHi.rf σ | exact (((gHi.rem hH).p _ _ (by decide)).p _ _ (by decide))
theorem hi_follow {σ : gST} (g s lg ls d : Int32) (hH : gHW σ) : gHi σ (fFollow σ g s lg ls d).2 := by
  unfold fFollow
  repeat' split
  all_goals first | exact gHi.rf σ | exact (((gHi.rem hH).p _ _ (by decide)).p _ _ (by decide))
theorem hi_setClass {σ : gST} (g b c : Int32) (hH : gHW σ) : gHi σ (fSetClass σ g b c).2 := by
  unfold fSetClass
  repeat' split
  all_goals first | exact gHi.rf σ | exact ((gHi.rem hH).p _ _ (by decide))
theorem hi_tlC {σ a : gST} (h : gHi σ a) (i j : Nat) (v : Int32) : gHi σ (gTlC a i j v) := by
  unfold gTlC
  split
  · exact (h.p _ _ (by decide)).p _ _ (by decide)
  · exact h.p _ _ (by decide)
theorem hi_tlP {σ a : gST} (h : gHi σ a) (i j : Nat) (v : Int32) : gHi σ (gTlP a i j v) := by
  unfold gTlP
  split
  · exact (h.p _ _ (by decide)).p _ _ (by decide)
  · exact h.p _ _ (by decide)
theorem hi_kernClasses {σ : gST} (a b v : Int32) (hH : gHW σ) : gHi σ (fKernClasses σ a b v).2 := by
  unfold fKernClasses
  repeat' split
  all_goals first | exact gHi.rf σ | exact hi_tlC (gHi.rem hH) _ _ _
theorem hi_kernPair {σ : gST} (g h v : Int32) (hH : gHW σ) : gHi σ (fKernPair σ g h v).2 := by
  unfold fKernPair
  repeat' split
  all_goals first | exact gHi.rf σ | exact hi_tlP (gHi.rem hH) _ _ _
theorem hi_dropKern {σ : gST} (w a b : Int32) (hH : gHW σ) : gHi σ (fDropKern σ w a b).2 := by
  unfold fDropKern
  repeat' split
  all_goals first | exact gHi.rf σ | exact (((gHi.rem hH).p _ _ (by decide)).p _ _ (by decide))
theorem hi_insW {σ a : gST} (h : gHi σ a) (g N : Nat) (f t : Int32) : gHi σ (gInsW a g N f t) := by
  unfold gInsW gS2f
  exact ((((h.sa (gSf (a.1 33) (g * 4) (gIp (a.1 33) (g * 4) f N) N) (k := 33) (by decide)).sa (k := 35) _ (by decide)).p _ _ (by decide)).p _ _ (by decide)).p _ _ (by decide)
theorem hi_s2d {σ a : gST} (h : gHi σ a) (b k i : Nat) : gHi σ (gS2d a b k i) := by
  unfold gS2d
  exact (h.sa (gDl (a.1 33) b k i) (k := 33) (by decide)).sa (k := 35) _ (by decide)
theorem hi_addStem {σ : gST} (g f t : Int32) (hH : gHW σ) : gHi σ (fAddStem σ g f t).2 := by
  unfold fAddStem
  repeat' split
  all_goals first | exact gHi.rf σ | exact hi_insW (gHi.rem hH) _ _ _ _
theorem hi_removeStem {σ : gST} (g s : Int32) (hH : gHW σ) : gHi σ (fRemoveStem σ g s).2 := by
  unfold fRemoveStem
  repeat' split
  all_goals first | exact gHi.rf σ | exact (hi_s2d (gHi.rem hH) _ _ _).p _ _ (by decide)
theorem hi_setProof {σ : gST} (t s : Int32) (hH : gHW σ) : gHi σ (fSetProof σ t s).2 := by
  unfold fSetProof
  repeat' split
  all_goals first | exact gHi.rf σ | exact (((gHi.rem hH).p _ _ (by decide)).p _ _ (by decide))
theorem hi_append {σ : gST} (c : Int32) : gHi σ (fAppend σ c).2 := by
  unfold fAppend
  repeat' split
  all_goals first | exact gHi.rf σ | exact (((gHi.rf σ).p _ _ (by decide)).p _ _ (by decide))
theorem hi_takeProof {σ : gST} : gHi σ (fTakeProof σ).2 := by
  unfold fTakeProof
  split
  · exact (gHi.rf σ).p _ _ (by decide)
  · exact (gHi.loop (fun i a ha => ha.p _ _ (by decide)) _ _ ((gHi.rf σ).p _ _ (by decide))).p _ _ (by decide)
theorem hi_proofWidth {σ : gST}  : gHi σ (fProofWidth σ).2 := by
  unfold fProofWidth
  repeat' split
  all_goals first | exact gHi.rf σ | exact gHi.set σ
theorem hi_position {σ : gST} (i : Int32) : gHi σ (fPosition σ i).2 := by
  unfold fPosition
  repeat' split
  all_goals first | exact gHi.rf σ | exact gHi.set σ
theorem hi_lines {σ : gST} (m : Int32) : gHi σ (fLines σ m).2 := by
  unfold fLines
  repeat' split
  all_goals first | exact gHi.rf σ | exact (gHi.set σ).la (gBr_A _ _)
theorem hi_line {σ : gST} (m i w : Int32) : gHi σ (fLine σ m i w).2 := by
  unfold fLine
  repeat' split
  all_goals first | exact gHi.rf σ | exact (gHi.set σ).la (gBr_A _ _)
theorem hi_least {σ : gST} (n : Int32) : gHi σ (fLeast σ n).2 := by
  unfold fLeast
  repeat' split
  all_goals first | exact gHi.rf σ | exact (gHi.set σ).la (gLm_A _ _ _)
theorem hi_rd (σ : gST) : gHi σ (gRd σ) := ⟨fun k hk => gRd_k σ (by omega), gRd_2 σ⟩
theorem hi_dr {σ ρ : gST} {g : Nat} (m i : Nat) (a : Nat × gST) (h : gHi σ a.2) : gHi σ (gLoop (gDrC ρ g) i m a).2 := by
  refine gLoop_inv (I := fun (a : Nat × gST) => gHi σ a.2) (fun c a ha => ?_) m i a h
  exact gHi.loop (fun p b hb => ((hb.p _ _ (by decide)).p _ _ (by decide)).p _ _ (by decide)) _ _ ((ha.p _ _ (by decide)).p _ _ (by decide))
theorem hi_readGlyph {σ : gST} (hH : gHW σ) : gHi σ (fRead σ).2 := by
  unfold fRead
  split
  · exact hi_rd σ
  · split
    · exact hi_rd σ
    · show gHi σ (gRz σ)
      unfold gRz
      refine hi_dr _ _ _ (gHi.p ?_ _ _ (by decide))
      have h1 := (hi_rd σ).tr (gHi.rem (gRd_hw hH))
      unfold gRw
      split
      · exact (h1.p _ _ (by decide)).p _ _ (by decide)
      · exact h1
theorem hi_undo {σ : gST}  : gHi σ (fUndo σ).2 := by
  unfold fUndo
  repeat' split
  all_goals first | exact gHi.rf σ | exact ((((gHi.rf σ).p _ _ (by decide)).p _ _ (by decide)).dc (by decide)).p _ _ (by decide)
theorem hi_save {σ : gST}  : gHi σ (fSave σ).2 := by
  unfold fSave
  repeat' split
  all_goals first | exact gHi.rf σ | exact ((gHi.rf σ).dc (by decide)).p _ _ (by decide)
theorem hi_restore {σ : gST}  : gHi σ (fRestore σ).2 := by
  unfold fRestore
  repeat' split
  all_goals first | exact gHi.rf σ | exact (((gHi.rf σ).dc (by decide)).p _ _ (by decide)).p _ _ (by decide)