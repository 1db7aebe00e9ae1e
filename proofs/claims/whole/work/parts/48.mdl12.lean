/-! ===== the class and the model side by side ===== -/
def gSR (τ σ : gST) : Prop := σ.1 376 2 = τ.1 0 6 ∧ (τ.1 0 6 = 0 ∨ (τ.1 0 6 = 1 ∧ gCI (gDg τ 36) ∧ gMR (gDg τ 36) (σ.1 378)))
def gBR (τ σ : gST) : Prop := (σ.1 376 7 = τ.1 353 1 ∧ ∀ i, i < gTl τ → σ.1 380 i = τ.1 355 i) ∧ (σ.1 376 9 = τ.1 363 6 ∧ ∀ i, i < gPl_ τ → σ.1 381 i = τ.1 365 i) ∧ σ.1 376 21 = τ.1 0 7
def gCB (τ : gST) : Prop := gHW τ ∧ gTW τ ∧ gPW τ ∧ (∀ i, i < gTl τ → 0 ≤ (τ.1 355 i).toInt ∧ (τ.1 355 i).toInt ≤ 65535) ∧ (∀ i, i < gPl_ τ → (τ.1 365 i).toInt < gNg τ)
def gAll (τ σ : gST) : Prop := gCI τ ∧ gCB τ ∧ gMR τ (σ.1 377) ∧ gHR τ σ ∧ gSR τ σ ∧ gBR τ σ
def gNO (σ σ' : gST) : Prop := (∀ k, k < 376 ∨ 390 ≤ k → σ'.1 k = σ.1 k) ∧ σ'.2 = σ.2
/-- the model's method answers as f does, and keeps all alike -/
def gOK (κ : gK) (m : gM) (args : List Value) (σ : gST) (o : gO) (l : List String) (f : gO × gST) : Prop := ∃ σ', gCt κ m 9 args σ o σ' 0 ∧ σ'.1 376 5 = xC l f.1 ∧ gNO σ σ' ∧ gAll f.2 σ'
theorem gNO.thr (σ : gST) (v : Int32) : gNO σ (gPut σ 376 5 v) := ⟨fun k hk => gPut_ne _ _ _ (by omega), rfl⟩
theorem gAll.thr {τ σ : gST} (h : gAll τ σ) (v : Int32) : gAll τ (gPut σ 376 5 v) := h
theorem gOK.rd {κ : gK} {m : gM} {args : List Value} {σ τ : gST} {o : gO} {l : List String} {f : gO × gST} (h : gAll τ σ) (hf : f.2 = τ) (hc : gCt κ m 9 args σ o (gPut σ 376 5 (xC l f.1)) 0) : gOK κ m args σ o l f :=
  ⟨_, hc, by rw [gPut_at, if_pos ⟨rfl, rfl⟩], gNO.thr σ _, by rw [hf]; exact h.thr _⟩
section alls
variable {τ σ : gST}
theorem gAll.ci (h : gAll τ σ) : gCI τ := h.1
theorem gAll.cb (h : gAll τ σ) : gCB τ := h.2.1
theorem gAll.mr (h : gAll τ σ) : gMR τ (σ.1 377) := h.2.2.1
theorem gAll.hr (h : gAll τ σ) : gHR τ σ := h.2.2.2.1
theorem gAll.sr (h : gAll τ σ) : gSR τ σ := h.2.2.2.2.1
theorem gAll.br (h : gAll τ σ) : gBR τ σ := h.2.2.2.2.2
theorem gAll.n8 (h : gAll τ σ) : nA (τ.1 71 2) ≤ 8 := nA_le h.cb.1.2.2
end alls
theorem gRem_1 (τ : gST) : gEqL τ (gRem τ) := gEqL.of (fun k h1 h2 => (gRem_D τ) k h2)
theorem gRem_36 {τ : gST} {k : Nat} (h : k = 0 ∨ (36 ≤ k ∧ k < 71)) : (gRem τ).1 k = τ.1 k :=
  (gPut_ne _ _ _ (by omega)).trans ((gPut_ne _ _ _ (by omega)).trans (funext (fun i => gDc_out (by omega) i)))
theorem gChg_o (σ : gST) (n : Nat) {k : Nat} (h : k ≠ 376) (h2 : k ≠ 379) : (gChg σ n).1 k = σ.1 k := (gPut_ne _ _ _ h).trans (gSA_ne _ _ h2)
theorem gChg_f (σ : gST) (n : Nat) {j : Nat} (h : j ≠ 4) : (gChg σ n).1 376 j = σ.1 376 j := by
  unfold gChg
  rw [gPut_at, if_neg (by omega)]
  exact congrFun (gSA_ne σ.1 (k := 379) (a := 376) (gChgP (σ.1 377) (σ.1 379) n) (by decide)) j
/-- a change done on both sides -/
theorem gAll.chg {τ τ' σ σ' : gST} (h : gAll τ σ) (hC : gCI τ') (hM : gMR τ' (σ'.1 377)) (hk : ∀ k, k = 0 ∨ 36 ≤ k → τ'.1 k = (gRem τ).1 k) (hg : gNg τ ≤ gNg τ')
    (hs : ∀ k, k ≠ 377 → σ'.1 k = (gChg (gPut σ 376 5 0) (nA (τ.1 71 2))).1 k) (h2 : σ'.2 = σ.2) : σ'.1 376 5 = 0 ∧ gNO σ σ' ∧ gAll τ' σ' := by
  obtain ⟨hH, hT, hP, hB1, hB2⟩ := h.cb
  have hx : nA (τ.1 71 1) ≤ 7 := nA_le hH.1.2
  have hn := h.n8
  obtain ⟨r1, r2⟩ := gRem_sl (τ := τ) rfl rfl hx hn
  have hhr : gHR (gRem τ) (gChg (gPut σ 376 5 0) (nA (τ.1 71 2))) := gHR.chg (σ := gPut σ 376 5 0) h.ci h.mr hH h.hr
  have e71 : τ'.1 71 = (gRem τ).1 71 := hk 71 (by omega)
  have hi : ∀ k, 353 ≤ k → τ'.1 k = τ.1 k := fun k h1 => (hk k (by omega)).trans (gRem_hi hH h1)
  have e0 : τ'.1 0 = τ.1 0 := (hk 0 (by omega)).trans (gRem_36 (Or.inl rfl))
  have s376 : ∀ j, j ≠ 4 → j ≠ 5 → σ'.1 376 j = σ.1 376 j := by
    intro j h1 h2
    rw [hs 376 (by decide), gChg_f _ _ h1, gPut_at, if_neg (by omega)]
  have so : ∀ k, k ≠ 376 → k ≠ 377 → k ≠ 379 → σ'.1 k = σ.1 k := by
    intro k h1 h2 h3
    rw [hs k h2, gChg_o _ _ h1 h3, gPut_ne _ _ _ h1]
  refine ⟨?_, ⟨fun k hk => so k (by omega) (by omega) (by omega), h2⟩, hC, ⟨?_, ?_, ?_, ?_, ?_⟩, hM, ⟨?_, fun j hj => ?_⟩, ⟨?_, ?_⟩, ⟨⟨?_, ?_⟩, ⟨?_, ?_⟩, ?_⟩⟩
  · rw [hs 376 (by decide), gChg_f _ _ (by decide), gPut_at, if_pos ⟨rfl, rfl⟩]
  · unfold gHW
    rw [e71]
    unfold gRem
    rw [gPut_at, if_neg (by omega), gPut_at, if_pos ⟨rfl, rfl⟩, gPut_at, if_pos ⟨rfl, rfl⟩, nI_toInt (by omega), nI_toInt (by split <;> omega)]
    refine ⟨by omega, ?_⟩
    split <;> omega
  · unfold gTW; rw [hi 353 (by decide)]; exact hT
  · unfold gPW; rw [hi 363 (by decide), hi 365 (by decide)]; exact hP
  · unfold gTl; rw [hi 353 (by decide), hi 355 (by decide)]; exact hB1
  · unfold gPl_; rw [hi 363 (by decide), hi 365 (by decide)]
    intro i hi2
    have := hB2 i hi2
    omega
  · rw [hs 376 (by decide), e71]; exact hhr.1
  · rw [e71] at hj
    have hsl : gSlot τ' j = gSlot (gRem τ) j := by unfold gSlot; rw [e71]
    have h73 : 73 ≤ gSlot (gRem τ) j ∧ gSlot (gRem τ) j + 35 ≤ 353 := by unfold gSlot; omega
    have hE : gEqL (gDg (gRem τ) (gSlot (gRem τ) j)) (gDg τ' (gSlot (gRem τ) j)) := gEqL.of (fun k h1 h2 => hk _ (by omega))
    obtain ⟨q1, q2⟩ := hhr.2 j hj
    rw [hsl, hs 379 (by decide)]
    exact ⟨hE.ci q1, hE.mr q1.dw q2⟩
  · rw [s376 2 (by decide) (by decide), e0]; exact h.sr.1
  · rw [e0, so 378 (by decide) (by decide) (by decide)]
    rcases h.sr.2 with h9 | ⟨h9, q1, q2⟩
    · exact Or.inl h9
    · have hE : gEqL (gDg τ 36) (gDg τ' 36) := gEqL.of (fun k h1 h2 => (hk _ (by omega)).trans (gRem_36 (Or.inr (by omega))))
      exact Or.inr ⟨h9, hE.ci q1, hE.mr q1.dw q2⟩
  · rw [s376 7 (by decide) (by decide), hi 353 (by decide)]; exact h.br.1.1
  · unfold gTl; rw [so 380 (by decide) (by decide) (by decide), hi 353 (by decide), hi 355 (by decide)]; exact h.br.1.2
  · rw [s376 9 (by decide) (by decide), hi 363 (by decide)]; exact h.br.2.1.1
  · unfold gPl_; rw [so 381 (by decide) (by decide) (by decide), hi 363 (by decide), hi 365 (by decide)]; exact h.br.2.1.2
  · rw [s376 21 (by decide) (by decide), e0]; exact h.br.2.2
/-- the glyphs' parts -/
theorem gMR.upd {τ τ' : gST} {s s' : Nat → Int32} (h : gMR τ s) (e1 : τ'.1 1 = τ.1 1) (e2 : τ'.1 2 = τ.1 2) (e20 : τ'.1 20 = τ.1 20) (e26 : τ'.1 26 = τ.1 26) (e28 : τ'.1 28 = τ.1 28) (hs : ∀ x, x < 196 → s' x = s x) (hg : ∀ g, g < gNg τ → gMG τ s g → gMG τ' s' g) : gMR τ' s' := by
  obtain ⟨⟨a1, a2, a3, a4⟩, b1, ⟨pr, c0, c1, c2, c3⟩, d1⟩ := h
  refine ⟨⟨?_, ?_, ?_, ?_⟩, fun k hk => ?_, ⟨pr, ?_, ?_, ?_, ?_⟩, fun g hg2 => ?_⟩
  · rw [hs _ (by decide), e2]; exact a1
  · rw [hs _ (by decide), e1]; exact a2
  · rw [hs _ (by decide), e1]; exact a3
  · rw [hs _ (by decide), e20]; exact a4
  · rw [hs _ (by omega), hs _ (by omega), e26]; exact b1 k hk
  · rw [e20]; exact c0
  · rw [e20, e28]
    intro k hk
    rw [hs _ (by omega), hs _ (by omega), hs _ (by omega)]; exact c1 k hk
  · rw [e20, e28]; exact c2
  · rw [e20]; exact c3
  · have e : gNg τ' = gNg τ := by unfold gNg; rw [e2]
    rw [e] at hg2
    exact hg g hg2 (d1 g hg2)

theorem gMG.new_con {τ τ' : gST} {s s' : Nat → Int32} {g : Nat} (h : gMG τ s g) (hW : gDW τ) (hg : g < 24) (e15 : τ'.1 15 = τ.1 15) (e17 : τ'.1 17 = τ.1 17) (e19 : τ'.1 19 = τ.1 19) (e22 : τ'.1 22 = τ.1 22) (e24 : τ'.1 24 = τ.1 24) (e31 : τ'.1 31 = τ.1 31) (e33 : τ'.1 33 = τ.1 33) (e35 : τ'.1 35 = τ.1 35) (e4 : τ'.1 4 = τ.1 4) (hs : ∀ x, 196 + 96 * g ≤ x → x < 196 + 96 * g + 96 → x < 196 + 96 * g + 1 ∨ 196 + 96 * g + 77 ≤ x → s' x = s x)
    (n1 : s' (196 + 96 * g + 1) = τ'.1 6 g) (n2 : ∀ c, c < gNc τ' g → s' (196 + 96 * g + (2 + c)) = τ'.1 8 (g * 3 + c)) (n3 : ∀ c p, c < gNc τ' g → p < gNp τ' g c → s' (196 + 96 * g + (5 + 2 * (12 * c + p))) = τ'.1 10 ((g * 3 + c) * 12 + p) ∧ s' (196 + 96 * g + (5 + 2 * (12 * c + p)) + 1) = τ'.1 12 ((g * 3 + c) * 12 + p)) : gMG τ' s' g := by
  have hc3 := hW.nc3 (g := g) hg
  have hs4 := hW.ns4 (g := g) hg
  obtain ⟨⟨e1x, e2x⟩, e3x, e4x, e5x, ⟨e6x, e7x, e8x⟩, e9x⟩ := h
  refine ⟨⟨?_, ?_⟩, ?_, ?_, ?_, ⟨?_, ?_, ?_⟩, ?_⟩
  · rw [hs _ (by omega) (by omega) (by omega), e4]; exact e1x
  · exact n1
  · exact n2
  · exact n3
  · intro t ht
    have e : gLe τ' (g * 2 + t) = gLe τ (g * 2 + t) := by unfold gLe; rw [e17]
    rw [hs _ (by omega) (by omega) (by omega), hs _ (by omega) (by omega) (by omega), hs _ (by omega) (by omega) (by omega), hs _ (by omega) (by omega) (by omega), e, e15, e19]; exact e5x t ht
  · rw [hs _ (by omega) (by omega) (by omega), e22]; exact e6x
  · rw [hs _ (by omega) (by omega) (by omega), e24]; exact e7x
  · rw [hs _ (by omega) (by omega) (by omega), e31]; exact e8x
  · have e : gNs τ' g = gNs τ g := by unfold gNs; rw [e31]
    rw [e]
    intro k hk
    rw [hs _ (by omega) (by omega) (by omega), hs _ (by omega) (by omega) (by omega), e33, e35]; exact e9x k hk

theorem gMG.new_sid {τ τ' : gST} {s s' : Nat → Int32} {g : Nat} (h : gMG τ s g) (hW : gDW τ) (hg : g < 24) (e6 : τ'.1 6 = τ.1 6) (e8 : τ'.1 8 = τ.1 8) (e10 : τ'.1 10 = τ.1 10) (e12 : τ'.1 12 = τ.1 12) (e22 : τ'.1 22 = τ.1 22) (e24 : τ'.1 24 = τ.1 24) (e31 : τ'.1 31 = τ.1 31) (e33 : τ'.1 33 = τ.1 33) (e35 : τ'.1 35 = τ.1 35) (e4 : τ'.1 4 = τ.1 4) (hs : ∀ x, 196 + 96 * g ≤ x → x < 196 + 96 * g + 96 → x < 196 + 96 * g + 77 ∨ 196 + 96 * g + 85 ≤ x → s' x = s x)
    (n1 : ∀ t, t < 2 → s' (196 + 96 * g + (77 + 4 * t + 0)) = τ'.1 15 (g * 2 + t) ∧ s' (196 + 96 * g + (77 + 4 * t + 1)) = lI ((gLe τ' (g * 2 + t)).map (fun b => b / 2)) ∧ ∀ b, gLe τ' (g * 2 + t) = some b → s' (196 + 96 * g + (77 + 4 * t + 2)) = nI (b % 2) ∧ s' (196 + 96 * g + (77 + 4 * t + 3)) = τ'.1 19 (g * 2 + t)) : gMG τ' s' g := by
  have hc3 := hW.nc3 (g := g) hg
  have hs4 := hW.ns4 (g := g) hg
  obtain ⟨⟨e1x, e2x⟩, e3x, e4x, e5x, ⟨e6x, e7x, e8x⟩, e9x⟩ := h
  refine ⟨⟨?_, ?_⟩, ?_, ?_, ?_, ⟨?_, ?_, ?_⟩, ?_⟩
  · rw [hs _ (by omega) (by omega) (by omega), e4]; exact e1x
  · rw [hs _ (by omega) (by omega) (by omega), e6]; exact e2x
  · have e : gNc τ' g = gNc τ g := by unfold gNc; rw [e6]
    rw [e]
    intro c hc
    rw [hs _ (by omega) (by omega) (by omega), e8]; exact e3x c hc
  · have e : gNc τ' g = gNc τ g := by unfold gNc; rw [e6]
    rw [e]
    intro c p hc hp
    have e9 : gNp τ' g c = gNp τ g c := by unfold gNp; rw [e8]
    rw [e9] at hp
    have h12 := hW.np12 (g := g) (c := c) (by omega) (by omega)
    rw [hs _ (by omega) (by omega) (by omega), hs _ (by omega) (by omega) (by omega), e10, e12]; exact e4x c p hc hp
  · exact n1
  · rw [hs _ (by omega) (by omega) (by omega), e22]; exact e6x
  · rw [hs _ (by omega) (by omega) (by omega), e24]; exact e7x
  · rw [hs _ (by omega) (by omega) (by omega), e31]; exact e8x
  · have e : gNs τ' g = gNs τ g := by unfold gNs; rw [e31]
    rw [e]
    intro k hk
    rw [hs _ (by omega) (by omega) (by omega), hs _ (by omega) (by omega) (by omega), e33, e35]; exact e9x k hk

theorem gMG.new_cls {τ τ' : gST} {s s' : Nat → Int32} {g : Nat} (h : gMG τ s g) (hW : gDW τ) (hg : g < 24) (e6 : τ'.1 6 = τ.1 6) (e8 : τ'.1 8 = τ.1 8) (e10 : τ'.1 10 = τ.1 10) (e12 : τ'.1 12 = τ.1 12) (e15 : τ'.1 15 = τ.1 15) (e17 : τ'.1 17 = τ.1 17) (e19 : τ'.1 19 = τ.1 19) (e31 : τ'.1 31 = τ.1 31) (e33 : τ'.1 33 = τ.1 33) (e35 : τ'.1 35 = τ.1 35) (e4 : τ'.1 4 = τ.1 4) (hs : ∀ x, 196 + 96 * g ≤ x → x < 196 + 96 * g + 96 → x < 196 + 96 * g + 85 ∨ 196 + 96 * g + 87 ≤ x → s' x = s x)
    (n1 : s' (196 + 96 * g + 85) = τ'.1 22 g) (n2 : s' (196 + 96 * g + 86) = τ'.1 24 g) : gMG τ' s' g := by
  have hc3 := hW.nc3 (g := g) hg
  have hs4 := hW.ns4 (g := g) hg
  obtain ⟨⟨e1x, e2x⟩, e3x, e4x, e5x, ⟨e6x, e7x, e8x⟩, e9x⟩ := h
  refine ⟨⟨?_, ?_⟩, ?_, ?_, ?_, ⟨?_, ?_, ?_⟩, ?_⟩
  · rw [hs _ (by omega) (by omega) (by omega), e4]; exact e1x
  · rw [hs _ (by omega) (by omega) (by omega), e6]; exact e2x
  · have e : gNc τ' g = gNc τ g := by unfold gNc; rw [e6]
    rw [e]
    intro c hc
    rw [hs _ (by omega) (by omega) (by omega), e8]; exact e3x c hc
  · have e : gNc τ' g = gNc τ g := by unfold gNc; rw [e6]
    rw [e]
    intro c p hc hp
    have e9 : gNp τ' g c = gNp τ g c := by unfold gNp; rw [e8]
    rw [e9] at hp
    have h12 := hW.np12 (g := g) (c := c) (by omega) (by omega)
    rw [hs _ (by omega) (by omega) (by omega), hs _ (by omega) (by omega) (by omega), e10, e12]; exact e4x c p hc hp
  · intro t ht
    have e : gLe τ' (g * 2 + t) = gLe τ (g * 2 + t) := by unfold gLe; rw [e17]
    rw [hs _ (by omega) (by omega) (by omega), hs _ (by omega) (by omega) (by omega), hs _ (by omega) (by omega) (by omega), hs _ (by omega) (by omega) (by omega), e, e15, e19]; exact e5x t ht
  · exact n1
  · exact n2
  · rw [hs _ (by omega) (by omega) (by omega), e31]; exact e8x
  · have e : gNs τ' g = gNs τ g := by unfold gNs; rw [e31]
    rw [e]
    intro k hk
    rw [hs _ (by omega) (by omega) (by omega), hs _ (by omega) (by omega) (by omega), e33, e35]; exact e9x k hk

theorem gMG.new_stm {τ τ' : gST} {s s' : Nat → Int32} {g : Nat} (h : gMG τ s g) (hW : gDW τ) (hg : g < 24) (e6 : τ'.1 6 = τ.1 6) (e8 : τ'.1 8 = τ.1 8) (e10 : τ'.1 10 = τ.1 10) (e12 : τ'.1 12 = τ.1 12) (e15 : τ'.1 15 = τ.1 15) (e17 : τ'.1 17 = τ.1 17) (e19 : τ'.1 19 = τ.1 19) (e22 : τ'.1 22 = τ.1 22) (e24 : τ'.1 24 = τ.1 24) (e4 : τ'.1 4 = τ.1 4) (hs : ∀ x, 196 + 96 * g ≤ x → x < 196 + 96 * g + 96 → x < 196 + 96 * g + 87 ∨ 196 + 96 * g + 96 ≤ x → s' x = s x)
    (n1 : s' (196 + 96 * g + 87) = τ'.1 31 g) (n2 : ∀ k, k < gNs τ' g → s' (196 + 96 * g + (88 + 2 * k)) = τ'.1 33 (g * 4 + k) ∧ s' (196 + 96 * g + (88 + 2 * k + 1)) = τ'.1 35 (g * 4 + k)) : gMG τ' s' g := by
  have hc3 := hW.nc3 (g := g) hg
  have hs4 := hW.ns4 (g := g) hg
  obtain ⟨⟨e1x, e2x⟩, e3x, e4x, e5x, ⟨e6x, e7x, e8x⟩, e9x⟩ := h
  refine ⟨⟨?_, ?_⟩, ?_, ?_, ?_, ⟨?_, ?_, ?_⟩, ?_⟩
  · rw [hs _ (by omega) (by omega) (by omega), e4]; exact e1x
  · rw [hs _ (by omega) (by omega) (by omega), e6]; exact e2x
  · have e : gNc τ' g = gNc τ g := by unfold gNc; rw [e6]
    rw [e]
    intro c hc
    rw [hs _ (by omega) (by omega) (by omega), e8]; exact e3x c hc
  · have e : gNc τ' g = gNc τ g := by unfold gNc; rw [e6]
    rw [e]
    intro c p hc hp
    have e9 : gNp τ' g c = gNp τ g c := by unfold gNp; rw [e8]
    rw [e9] at hp
    have h12 := hW.np12 (g := g) (c := c) (by omega) (by omega)
    rw [hs _ (by omega) (by omega) (by omega), hs _ (by omega) (by omega) (by omega), e10, e12]; exact e4x c p hc hp
  · intro t ht
    have e : gLe τ' (g * 2 + t) = gLe τ (g * 2 + t) := by unfold gLe; rw [e17]
    rw [hs _ (by omega) (by omega) (by omega), hs _ (by omega) (by omega) (by omega), hs _ (by omega) (by omega) (by omega), hs _ (by omega) (by omega) (by omega), e, e15, e19]; exact e5x t ht
  · rw [hs _ (by omega) (by omega) (by omega), e22]; exact e6x
  · rw [hs _ (by omega) (by omega) (by omega), e24]; exact e7x
  · exact n1
  · exact n2

/-- a glyph that a change does not touch -/
theorem gMG.same {τ τ' : gST} {s s' : Nat → Int32} {g : Nat} (h : gMG τ s g) (hW : gDW τ) (hg : g < 24) (hs : ∀ x, 196 + 96 * g ≤ x → x < 196 + 96 * g + 96 → s' x = s x)
    (e4 : τ'.1 4 g = τ.1 4 g) (e6 : τ'.1 6 g = τ.1 6 g) (e8 : ∀ c, c < 3 → τ'.1 8 (g * 3 + c) = τ.1 8 (g * 3 + c)) (e10 : ∀ i, i < 36 → τ'.1 10 (g * 36 + i) = τ.1 10 (g * 36 + i)) (e12 : ∀ i, i < 36 → τ'.1 12 (g * 36 + i) = τ.1 12 (g * 36 + i))
    (e15 : ∀ t, t < 2 → τ'.1 15 (g * 2 + t) = τ.1 15 (g * 2 + t)) (e17 : ∀ t, t < 2 → τ'.1 17 (g * 2 + t) = τ.1 17 (g * 2 + t)) (e19 : ∀ t, t < 2 → τ'.1 19 (g * 2 + t) = τ.1 19 (g * 2 + t)) (e22 : τ'.1 22 g = τ.1 22 g) (e24 : τ'.1 24 g = τ.1 24 g)
    (e31 : τ'.1 31 g = τ.1 31 g) (e33 : ∀ k, k < 4 → τ'.1 33 (g * 4 + k) = τ.1 33 (g * 4 + k)) (e35 : ∀ k, k < 4 → τ'.1 35 (g * 4 + k) = τ.1 35 (g * 4 + k)) : gMG τ' s' g := by
  have hc3 := hW.nc3 (g := g) hg
  have hs4 := hW.ns4 (g := g) hg
  obtain ⟨⟨e1x, e2x⟩, e3x, e4x, e5x, ⟨e6x, e7x, e8x⟩, e9x⟩ := h
  have enc : gNc τ' g = gNc τ g := by unfold gNc; rw [e6]
  have ens : gNs τ' g = gNs τ g := by unfold gNs; rw [e31]
  refine ⟨⟨?_, ?_⟩, ?_, ?_, ?_, ⟨?_, ?_, ?_⟩, ?_⟩
  · rw [hs _ (by omega) (by omega), e4]; exact e1x
  · rw [hs _ (by omega) (by omega), e6]; exact e2x
  · rw [enc]
    intro c hc
    rw [hs _ (by omega) (by omega), e8 c (by omega)]; exact e3x c hc
  · rw [enc]
    intro c p hc hp
    have e9 : gNp τ' g c = gNp τ g c := by unfold gNp; rw [e8 c (by omega)]
    rw [e9] at hp
    have h12 := hW.np12 (g := g) (c := c) (by omega) (by omega)
    rw [hs _ (by omega) (by omega), hs _ (by omega) (by omega), show (g * 3 + c) * 12 + p = g * 36 + (c * 12 + p) by omega, e10 _ (by omega), e12 _ (by omega), show g * 36 + (c * 12 + p) = (g * 3 + c) * 12 + p by omega]; exact e4x c p hc hp
  · intro t ht
    have e : gLe τ' (g * 2 + t) = gLe τ (g * 2 + t) := by unfold gLe; rw [e17 t ht]
    rw [hs _ (by omega) (by omega), hs _ (by omega) (by omega), hs _ (by omega) (by omega), hs _ (by omega) (by omega), e, e15 t ht, e19 t ht]; exact e5x t ht
  · rw [hs _ (by omega) (by omega), e22]; exact e6x
  · rw [hs _ (by omega) (by omega), e24]; exact e7x
  · rw [hs _ (by omega) (by omega), e31]; exact e8x
  · rw [ens]
    intro k hk
    rw [hs _ (by omega) (by omega), hs _ (by omega) (by omega), e33 k (by omega), e35 k (by omega)]; exact e9x k hk
theorem uN (f : Nat → Int32) (i : Nat) (v : Int32) (j : Nat) : upd f i v j = if j = i then v else f j := rfl
theorem gPut_s (σ : gST) (a i : Nat) (v : Int32) : (gPut σ a i v).1 a = upd (σ.1 a) i v := by
  show gSA σ.1 a _ a = _
  rw [gSA_self]
