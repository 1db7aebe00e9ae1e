/-! ===== designs that are alike; what the model's row says of them ===== -/
def gRows : List (Nat × Nat) := [(4, 24), (6, 24), (8, 72), (10, 864), (12, 864), (15, 48), (17, 48), (19, 48), (22, 24), (24, 24), (26, 36), (28, 576), (31, 24), (33, 96), (35, 96)]
def gEqL (τ τ' : gST) : Prop := (τ'.1 2 5 = τ.1 2 5 ∧ τ'.1 20 4 = τ.1 20 4 ∧ τ'.1 20 5 = τ.1 20 5 ∧ τ'.1 1 4 = τ.1 1 4 ∧ τ'.1 1 5 = τ.1 1 5) ∧ ∀ q, q ∈ gRows → ∀ i, i < q.2 → τ'.1 q.1 i = τ.1 q.1 i
theorem gEqL.of {τ τ' : gST} (h : ∀ k, 1 ≤ k → k < 36 → τ'.1 k = τ.1 k) : gEqL τ τ' := by
  refine ⟨⟨congrFun (h 2 (by decide) (by decide)) 5, congrFun (h 20 (by decide) (by decide)) 4, congrFun (h 20 (by decide) (by decide)) 5, congrFun (h 1 (by decide) (by decide)) 4, congrFun (h 1 (by decide) (by decide)) 5⟩, fun q hq i _ => ?_⟩
  have h2 : ∀ q, q ∈ gRows → 1 ≤ q.1 ∧ q.1 < 36 := by decide
  exact congrFun (h q.1 (h2 q hq).1 (h2 q hq).2) i
theorem gEqL.tr {a b c : gST} (h : gEqL a b) (h2 : gEqL b c) : gEqL a c :=
  ⟨⟨h2.1.1.trans h.1.1, h2.1.2.1.trans h.1.2.1, h2.1.2.2.1.trans h.1.2.2.1, h2.1.2.2.2.1.trans h.1.2.2.2.1, h2.1.2.2.2.2.trans h.1.2.2.2.2⟩, fun q hq i hi => (h2.2 q hq i hi).trans (h.2 q hq i hi)⟩
theorem gEqL.sy {a b : gST} (h : gEqL a b) : gEqL b a :=
  ⟨⟨h.1.1.symm, h.1.2.1.symm, h.1.2.2.1.symm, h.1.2.2.2.1.symm, h.1.2.2.2.2.symm⟩, fun q hq i hi => (h.2 q hq i hi).symm⟩
section eql
variable {τ τ' : gST} (hE : gEqL τ τ')
theorem gEqL.r (hE : gEqL τ τ') (k n : Nat) {i : Nat} (hm : (k, n) ∈ gRows) (hi : i < n) : τ'.1 k i = τ.1 k i := hE.2 (k, n) hm i hi
theorem gEqL.ng (hE : gEqL τ τ') : gNg τ' = gNg τ := by unfold gNg; rw [hE.1.1]
theorem gEqL.nc (hE : gEqL τ τ') {g : Nat} (hg : g < 24) : gNc τ' g = gNc τ g := by unfold gNc; rw [hE.r 6 24 (by decide) hg]
theorem gEqL.np (hE : gEqL τ τ') {g c : Nat} (hg : g < 24) (hc : c < 3) : gNp τ' g c = gNp τ g c := by unfold gNp; rw [hE.r 8 72 (by decide) (by omega)]
theorem gEqL.ns (hE : gEqL τ τ') {g : Nat} (hg : g < 24) : gNs τ' g = gNs τ g := by unfold gNs; rw [hE.r 31 24 (by decide) hg]
theorem gEqL.le (hE : gEqL τ τ') {a : Nat} (ha : a < 48) : gLe τ' a = gLe τ a := by unfold gLe; rw [hE.r 17 48 (by decide) ha]
theorem gEqL.dw (hE : gEqL τ τ') (h : gDW τ) : gDW τ' := by
  obtain ⟨h1, h2, h3, h4, h5, h6, h7⟩ := h
  refine ⟨by rw [hE.1.1]; exact h1, fun i hi => ?_, fun i hi => ?_, fun i hi => ?_, fun i hi => ?_, fun i hi => ?_, fun i hi => ?_⟩
  · rw [hE.r 6 24 (by decide) hi]; exact h2 i hi
  · rw [hE.r 8 72 (by decide) hi]; exact h3 i hi
  · rw [hE.r 17 48 (by decide) hi]; exact h4 i hi
  · rw [hE.r 22 24 (by decide) hi]; exact h5 i hi
  · rw [hE.r 24 24 (by decide) hi]; exact h6 i hi
  · rw [hE.r 31 24 (by decide) hi]; exact h7 i hi
theorem gEn_c {ld ld' : Nat → Option Nat} {n : Nat} (h : ∀ a, a < n → ld' a = ld a) (hb : ∀ a b, a < n → ld a = some b → b < n) : ∀ (f a : Nat), a < n → gEn ld f a → gEn ld' f a
  | 0, a, ha, he => (h a ha).trans he
  | f + 1, a, ha, he => fun b hb2 => gEn_c h hb f b (hb a b ha ((h a ha).symm.trans hb2)) (he b ((h a ha).symm.trans hb2))
theorem gEqL.ci (hE : gEqL τ τ') (h : gCI τ) : gCI τ' := by
  have hW := h.dw
  have h24 := hW.ng24
  refine ⟨hE.dw hW, ⟨?_, ?_, ?_⟩, ⟨?_, ?_⟩, ⟨?_, ?_⟩, ?_, ⟨?_, ?_, ?_, ?_, ?_⟩⟩
  · intro a b ha hl
    rw [hE.ng] at ha ⊢
    rw [hE.le (by omega)] at hl
    exact h.lw.1 a b ha hl
  · intro a ha
    rw [hE.ng] at ha
    exact gEn_c (n := 2 * gNg τ) (fun a ha => hE.le (by omega)) h.lw.1 47 a ha (h.lw.2.1 a ha)
  · intro a ha ha2
    rw [hE.ng] at ha
    rw [hE.le ha2]
    exact h.lw.2.2 a ha ha2
  · intro g c hg hc
    rw [hE.ng] at hg
    have h3 := hW.nc3 (g := g) (by omega)
    rw [hE.nc (by omega)] at hc
    rw [hE.np (by omega) (by omega)]
    exact h.po.1 g c hg hc
  · intro g c p hg hc hp
    rw [hE.ng] at hg
    have h3 := hW.nc3 (g := g) (by omega)
    rw [hE.nc (by omega)] at hc
    have h12 := hW.np12 (g := g) (c := c) (by omega) (by omega)
    rw [hE.np (by omega) (by omega)] at hp
    rw [hE.r 10 864 (by decide) (by omega), hE.r 12 864 (by decide) (by omega)]
    exact h.po.2 g c p hg hc hp
  · intro g hg
    rw [hE.ng] at hg
    rw [hE.r 4 24 (by decide) (by omega)]
    exact h.gw.1 g hg
  · intro g hg hg2
    rw [hE.ng] at hg
    obtain ⟨q1, q2, q3, q4, q5⟩ := h.gw.2 g hg hg2
    refine ⟨?_, ?_, ?_, ?_, fun t ht => ?_⟩
    · rw [hE.r 6 24 (by decide) hg2]; exact q1
    · rw [hE.r 31 24 (by decide) hg2]; exact q2
    · rw [hE.r 22 24 (by decide) hg2]; exact q3
    · rw [hE.r 24 24 (by decide) hg2]; exact q4
    · rw [hE.r 15 48 (by decide) (by omega)]; exact q5 t ht
  · intro g hg
    rw [hE.ng] at hg
    have h4 := hW.ns4 (g := g) (by omega)
    rw [hE.ns (by omega)]
    refine ⟨fun k hk => ?_, fun k hk => ?_⟩
    · rw [hE.r 33 96 (by decide) (by omega), hE.r 35 96 (by decide) (by omega)]; exact (h.sw g hg).1 k hk
    · rw [hE.r 33 96 (by decide) (by omega), hE.r 35 96 (by decide) (by omega)]; exact (h.sw g hg).2 k hk
  · intro k hk
    rw [hE.r 26 36 (by decide) hk]; exact h.kw.1 k hk
  · intro k hk
    rw [hE.r 28 576 (by decide) hk]; exact h.kw.2.1 k hk
  · rw [hE.1.2.1, h.kw.2.2.1]
    refine gLoop_congr _ _ _ (fun k _ hk b => ?_)
    rw [hE.r 26 36 (by decide) (by omega)]
  · rw [hE.1.2.2.1]; exact h.kw.2.2.2.1
  · rw [hE.1.2.2.2.1, hE.1.2.2.2.2]; exact h.kw.2.2.2.2
theorem gEqL.mr (hE : gEqL τ τ') (hW : gDW τ) {s : Nat → Int32} (h : gMR τ s) : gMR τ' s := by
  have h24 := hW.ng24
  obtain ⟨⟨a1, a2, a3, a4⟩, b1, ⟨pr, c0, c1, c2, c3⟩, d1⟩ := h
  refine ⟨⟨?_, ?_, ?_, ?_⟩, fun k hk => ?_, ⟨pr, ?_, ?_, ?_, ?_⟩, fun g hg => ?_⟩
  · rw [hE.1.1]; exact a1
  · rw [hE.1.2.2.2.1]; exact a2
  · rw [hE.1.2.2.2.2]; exact a3
  · rw [hE.1.2.2.1]; exact a4
  · rw [hE.r 26 36 (by decide) hk]; exact b1 k hk
  · rw [hE.1.2.2.1]; exact c0
  · rw [hE.1.2.2.1]
    intro k hk
    rw [hE.r 28 576 (by decide) (c1 k hk).1]
    exact c1 k hk
  · rw [hE.1.2.2.1]
    intro x hx hn
    rw [hE.r 28 576 (by decide) hx] at hn
    exact c2 x hx hn
  · rw [hE.1.2.2.1]; exact c3
  · rw [hE.ng] at hg
    obtain ⟨⟨e1, e2⟩, e3, e4, e5, ⟨e6, e7, e8⟩, e9⟩ := d1 g hg
    have hc3 := hW.nc3 (g := g) (by omega)
    have hs4 := hW.ns4 (g := g) (by omega)
    refine ⟨⟨?_, ?_⟩, ?_, ?_, ?_, ⟨?_, ?_, ?_⟩, ?_⟩
    · rw [hE.r 4 24 (by decide) (by omega)]; exact e1
    · rw [hE.r 6 24 (by decide) (by omega)]; exact e2
    · rw [hE.nc (by omega)]
      intro c hc
      rw [hE.r 8 72 (by decide) (by omega)]; exact e3 c hc
    · rw [hE.nc (by omega)]
      intro c p hc hp
      have h12 := hW.np12 (g := g) (c := c) (by omega) (by omega)
      rw [hE.np (by omega) (by omega)] at hp
      rw [hE.r 10 864 (by decide) (by omega), hE.r 12 864 (by decide) (by omega)]; exact e4 c p hc hp
    · intro t ht
      rw [hE.r 15 48 (by decide) (by omega), hE.le (by omega), hE.r 19 48 (by decide) (by omega)]; exact e5 t ht
    · rw [hE.r 22 24 (by decide) (by omega)]; exact e6
    · rw [hE.r 24 24 (by decide) (by omega)]; exact e7
    · rw [hE.r 31 24 (by decide) (by omega)]; exact e8
    · rw [hE.ns (by omega)]
      intro k hk
      rw [hE.r 33 96 (by decide) (by omega), hE.r 35 96 (by decide) (by omega)]; exact e9 k hk
end eql
/-- only the first 2500 ints of the row count -/
theorem gMR.cs {τ : gST} {s s' : Nat → Int32} (hW : gDW τ) (hs : ∀ i, i < 2500 → s' i = s i) (h : gMR τ s) : gMR τ s' := by
  have h24 := hW.ng24
  obtain ⟨⟨a1, a2, a3, a4⟩, b1, ⟨pr, c0, c1, c2, c3⟩, d1⟩ := h
  refine ⟨⟨?_, ?_, ?_, ?_⟩, fun k hk => ?_, ⟨pr, c0, fun k hk => ?_, c2, c3⟩, fun g hg => ?_⟩
  · rw [hs _ (by decide)]; exact a1
  · rw [hs _ (by decide)]; exact a2
  · rw [hs _ (by decide)]; exact a3
  · rw [hs _ (by decide)]; exact a4
  · rw [hs _ (by omega), hs _ (by omega)]; exact b1 k hk
  · rw [hs _ (by omega), hs _ (by omega), hs _ (by omega)]; exact c1 k hk
  · obtain ⟨⟨e1, e2⟩, e3, e4, e5, ⟨e6, e7, e8⟩, e9⟩ := d1 g hg
    have hc3 := hW.nc3 (g := g) (by omega)
    have hs4 := hW.ns4 (g := g) (by omega)
    refine ⟨⟨?_, ?_⟩, ?_, ?_, ?_, ⟨?_, ?_, ?_⟩, ?_⟩
    · rw [hs _ (by omega)]; exact e1
    · rw [hs _ (by omega)]; exact e2
    · intro c hc
      rw [hs _ (by omega)]; exact e3 c hc
    · intro c p hc hp
      have h12 := hW.np12 (g := g) (c := c) (by omega) (by omega)
      rw [hs _ (by omega), hs _ (by omega)]; exact e4 c p hc hp
    · intro t ht
      rw [hs _ (by omega), hs _ (by omega), hs _ (by omega), hs _ (by omega)]; exact e5 t ht
    · rw [hs _ (by omega)]; exact e6
    · rw [hs _ (by omega)]; exact e7
    · rw [hs _ (by omega)]; exact e8
    · intro k hk
      rw [hs _ (by omega), hs _ (by omega)]; exact e9 k hk
/-- the design whose objects begin at o, as if it were the current one -/
def gDg (τ : gST) (o : Nat) : gST := (fun k i => τ.1 (o - 1 + k) i, τ.2)
theorem gDg_1 (τ : gST) : gEqL (gDg τ 1) τ := gEqL.of (fun k h1 h2 => by
  show τ.1 k = τ.1 (1 - 1 + k)
  rw [show 1 - 1 + k = k by omega])
theorem gIn_r {l : gCpL} {k n i : Nat} (hm : (k, true, n) ∈ l) (hi : i < n) : gIn l k i = true := by
  unfold gIn
  rw [List.any_eq_true]
  refine ⟨_, hm, ?_⟩
  show (Nat.beq k k && Nat.blt i n) = true
  rw [Nat.beq_refl, show Nat.blt i n = true from Nat.ble_eq.mpr hi]
  rfl
theorem gIn_f {l : gCpL} {k x : Nat} (hm : (k, false, x) ∈ l) : gIn l k x = true := by
  unfold gIn
  rw [List.any_eq_true]
  refine ⟨_, hm, ?_⟩
  show (Nat.beq k k && Nat.beq x x) = true
  rw [Nat.beq_refl, Nat.beq_refl]
  rfl
theorem gRows_in : ∀ q, q ∈ gRows → (q.1 - 1, true, q.2) ∈ gLX1_copyFrom ∧ 1 ≤ q.1 ∧ q.1 < 36 := by decide +kernel
/-- a design copied is alike -/
theorem gDc_eq {σ : gST} {o o2 : Nat} (ho : 1 ≤ o) (ho2 : 1 ≤ o2) : gEqL (gDg σ o2) (gDg (gDc gLX1_copyFrom σ o o2) o) := by
  have h : ∀ k i, 1 ≤ k → k < 36 → gIn gLX1_copyFrom (k - 1) i = true → (gDg (gDc gLX1_copyFrom σ o o2) o).1 k i = (gDg σ o2).1 k i := by
    intro k i h1 h2 h3
    show (gDc gLX1_copyFrom σ o o2).1 (o - 1 + k) i = σ.1 (o2 - 1 + k) i
    rw [show o - 1 + k = o + (k - 1) by omega, show o2 - 1 + k = o2 + (k - 1) by omega]
    exact gDc_in (by omega) h3
  refine ⟨⟨?_, ?_, ?_, ?_, ?_⟩, fun q hq i hi => ?_⟩
  · exact h 2 5 (by decide) (by decide) (gIn_f (by decide +kernel))
  · exact h 20 4 (by decide) (by decide) (gIn_f (by decide +kernel))
  · exact h 20 5 (by decide) (by decide) (gIn_f (by decide +kernel))
  · exact h 1 4 (by decide) (by decide) (gIn_f (by decide +kernel))
  · exact h 1 5 (by decide) (by decide) (gIn_f (by decide +kernel))
  · obtain ⟨h1, h2, h3⟩ := gRows_in q hq
    exact h q.1 i h2 h3 (gIn_r h1 hi)
theorem gDg_put {σ : gST} {a i : Nat} {v : Int32} {o : Nat} (ho : 1 ≤ o) (h : a < o ∨ o + 35 ≤ a) : gEqL (gDg σ o) (gDg (gPut σ a i v) o) := gEqL.of (fun k h1 h2 => by
  show (gPut σ a i v).1 (o - 1 + k) = σ.1 (o - 1 + k)
  exact gPut_ne _ _ _ (by omega))
theorem gDg_dc {l : gCpL} {σ : gST} {o o2 o3 : Nat} (h : o3 + 35 ≤ o ∨ o + 35 ≤ o3) (h3 : 1 ≤ o3) : gEqL (gDg σ o3) (gDg (gDc l σ o o2) o3) := gEqL.of (fun k h1 h2 => by
  funext i
  show (gDc l σ o o2).1 (o3 - 1 + k) i = σ.1 (o3 - 1 + k) i
  exact gDc_out (by omega) i)
/-- the ring: the slot of the j-th change kept -/
def gSlot (τ : gST) (j : Nat) : Nat := 73 + 35 * ((nA (τ.1 71 1) + 8 - nA (τ.1 71 2) + j) % 8)
def gHR (τ σ : gST) : Prop := σ.1 376 4 = nI (nA (τ.1 71 2)) ∧ ∀ j, j < nA (τ.1 71 2) → gCI (gDg τ (gSlot τ j)) ∧ gMR (gDg τ (gSlot τ j)) (fun i => σ.1 379 (2500 * j + i))
def gChgP (s p : Nat → Int32) (n : Nat) : Nat → Int32 := if n = 8 then va_cpy s (va_cpy p p 2500 0 17500) 0 (2500 * 7) 2500 else va_cpy s p 0 (2500 * n) 2500
def gChg (σ : gST) (n : Nat) : gST := gPut (gSA σ.1 379 (gChgP (σ.1 377) (σ.1 379) n), σ.2) 376 4 (nI (if n = 8 then 8 else n + 1))
theorem gRem_sl {τ : gST} {nx n : Nat} (h1 : nA (τ.1 71 1) = nx) (h2 : nA (τ.1 71 2) = n) (hx : nx ≤ 7) (hn : n ≤ 8) : nA ((gRem τ).1 71 1) = (nx + 1) % 8 ∧ nA ((gRem τ).1 71 2) = (if n < 8 then n + 1 else 8) := by
  unfold gRem
  refine ⟨?_, ?_⟩
  · rw [gPut_at, if_neg (by omega), gPut_at, if_pos ⟨rfl, rfl⟩, h1, nA_nI (by omega)]
  · rw [gPut_at, if_pos ⟨rfl, rfl⟩, h2]
    split
    · exact nA_nI (by omega)
    · exact nA_nI (by omega)
/-- a change remembered on both sides -/
theorem gHR.chg {τ σ : gST} (hC : gCI τ) (hM : gMR τ (σ.1 377)) (hH : gHW τ) (h : gHR τ σ) : gHR (gRem τ) (gChg σ (nA (τ.1 71 2))) := by
  have hx : nA (τ.1 71 1) ≤ 7 := nA_le hH.1.2
  have hn : nA (τ.1 71 2) ≤ 8 := nA_le hH.2.2
  obtain ⟨r1, r2⟩ := gRem_sl (τ := τ) rfl rfl hx hn
  obtain ⟨h1, h2⟩ := h
  generalize hnx : nA (τ.1 71 1) = nx at *
  generalize hnn : nA (τ.1 71 2) = n at *
  have hold : ∀ o, 73 ≤ o → (o + 35 ≤ 73 + 35 * nx ∨ 73 + 35 * nx + 35 ≤ o) → gEqL (gDg τ o) (gDg (gRem τ) o) := by
    intro o ho1 ho
    unfold gRem
    rw [hnx]
    exact ((gDg_dc ho (by omega)).tr (gDg_put (by omega) (by omega))).tr (gDg_put (by omega) (by omega))
  have hnew : gEqL τ (gDg (gRem τ) (73 + 35 * nx)) := by
    unfold gRem
    rw [hnx]
    exact (((gDg_1 τ).sy.tr (gDc_eq (by omega) (by omega))).tr (gDg_put (by omega) (by omega))).tr (gDg_put (by omega) (by omega))
  have hpast : ∀ j i, (gChg σ n).1 379 (2500 * j + i) = gChgP (σ.1 377) (σ.1 379) n (2500 * j + i) := fun j i => rfl
  have hself : ∀ j, j < (if n < 8 then n + 1 else 8) → j + 1 = (if n < 8 then n + 1 else 8) → gCI (gDg (gRem τ) (gSlot (gRem τ) j)) ∧ gMR (gDg (gRem τ) (gSlot (gRem τ) j)) (fun i => (gChg σ n).1 379 (2500 * j + i)) := by
    intro j hj hj2
    have hs : gSlot (gRem τ) j = 73 + 35 * nx := by
      unfold gSlot
      rw [r1, r2]
      split at hj <;> rename_i h8 <;> simp only [h8, if_true, if_false] at hj2 ⊢ <;> omega
    rw [hs]
    refine ⟨hnew.ci hC, gMR.cs (hnew.dw hC.dw) (fun i hi => ?_) (hnew.mr hC.dw hM)⟩
    show (gChg σ n).1 379 (2500 * j + i) = σ.1 377 i
    rw [hpast]
    unfold gChgP
    by_cases h8 : n = 8
    · rw [if_pos h8]
      rw [if_neg (by omega)] at hj2
      unfold va_cpy
      rw [if_pos (by omega), show 0 + (2500 * j + i - 2500 * 7) = i by omega]
    · rw [if_neg h8]
      rw [if_pos (by omega)] at hj2
      unfold va_cpy
      rw [if_pos (by omega), show 0 + (2500 * j + i - 2500 * n) = i by omega]
  refine ⟨?_, fun j hj => ?_⟩
  · rw [r2]
    show (gChg σ n).1 376 4 = _
    unfold gChg
    rw [gPut_at, if_pos ⟨rfl, rfl⟩]
    by_cases h8 : n = 8
    · rw [if_pos h8, if_neg (by omega)]
    · rw [if_neg h8, if_pos (by omega)]
  · rw [r2] at hj
    by_cases hl : j + 1 = (if n < 8 then n + 1 else 8)
    · exact hself j hj hl
    · by_cases h8 : n = 8
      · rw [if_neg (by omega)] at hj hl
        have hs : gSlot (gRem τ) j = gSlot τ (j + 1) ∧ (gSlot τ (j + 1) + 35 ≤ 73 + 35 * nx ∨ 73 + 35 * nx + 35 ≤ gSlot τ (j + 1)) ∧ 73 ≤ gSlot τ (j + 1) := by
          unfold gSlot
          rw [r1, r2, hnx, hnn, if_neg (by omega)]
          omega
        rw [hs.1]
        have he := hold _ hs.2.2 hs.2.1
        obtain ⟨q1, q2⟩ := h2 (j + 1) (by omega)
        refine ⟨he.ci q1, gMR.cs (he.dw q1.dw) (fun i hi => ?_) (he.mr q1.dw q2)⟩
        show (gChg σ n).1 379 (2500 * j + i) = σ.1 379 (2500 * (j + 1) + i)
        rw [hpast]
        unfold gChgP
        rw [if_pos h8]
        unfold va_cpy
        rw [if_neg (by omega), if_pos (by omega), show 2500 + (2500 * j + i - 0) = 2500 * (j + 1) + i by omega]
      · rw [if_pos (by omega)] at hj hl
        have hs : gSlot (gRem τ) j = gSlot τ j ∧ (gSlot τ j + 35 ≤ 73 + 35 * nx ∨ 73 + 35 * nx + 35 ≤ gSlot τ j) ∧ 73 ≤ gSlot τ j := by
          unfold gSlot
          rw [r1, r2, hnx, hnn, if_pos (by omega)]
          omega
        rw [hs.1]
        have he := hold _ hs.2.2 hs.2.1
        obtain ⟨q1, q2⟩ := h2 j (by omega)
        refine ⟨he.ci q1, gMR.cs (he.dw q1.dw) (fun i hi => ?_) (he.mr q1.dw q2)⟩
        show (gChg σ n).1 379 (2500 * j + i) = σ.1 379 (2500 * j + i)
        rw [hpast]
        unfold gChgP
        rw [if_neg h8]
        unfold va_cpy
        rw [if_neg (by omega)]

theorem gChg_8 (σ : gST) (A B : Nat → Int32) (x y : Int32) : gPut (gSA (gPut (gSA σ.1 379 A, σ.2) 376 4 x).1 379 B, σ.2) 376 4 y = gPut (gSA σ.1 379 B, σ.2) 376 4 y := by
  apply Prod.ext
  · funext a i
    rw [gPut_at, gPut_at]
    by_cases h1 : a = 376 ∧ i = 4
    · rw [if_pos h1, if_pos h1]
    · rw [if_neg h1, if_neg h1]
      show gSA (gPut (gSA σ.1 379 A, σ.2) 376 4 x).1 379 B a i = gSA σ.1 379 B a i
      by_cases h2 : a = 379
      · subst h2; rw [gSA_self, gSA_self]
      · rw [gSA_ne _ _ h2, gSA_ne _ _ h2, gPut_at, if_neg h1]
        show gSA σ.1 379 A a i = _
        rw [gSA_ne _ _ h2]
  · rfl

set_option maxHeartbeats 4000000 in
set_option maxRecDepth 100000 in
theorem ctX11_change {κ : gK} {σ : gST} {n : Nat} (hn : σ.1 376 4 = nI n) (h8n : n ≤ 8) : gCt κ mX11_change 1 [.ref (κ.2.1 + 376)] σ (.inl none) (gChg σ n) 0 := by
  refine ct_of (by decide +kernel) rfl (Nat.le_of_ble_eq_true rfl) rfl ?_
  by_cases h8 : n = 8
  · subst h8
    refine go_aload_n (q := 1) (gDec iX11_change_ok 0 rfl) rfl rfl rfl ?_
    refine go_geti (q := 4) fX11_76 (gDec iX11_change_ok 1 rfl) rfl (by decide) rfl ?_
    refine go_top (v' := nI 8) (hn) ?_
    refine go_bipush (v := nI 8) (q := 6) (gDec iX11_change_ok 2 rfl) (by decide) rfl ?_
    refine go_icmp_ne (t := 37) (q := 9) (gDec iX11_change_ok 3 rfl) (by decide) rfl (fun c6 => False.elim (c6 rfl)) (fun c6 => ?_)
    refine go_aload_n (q := 10) (gDec iX11_change_ok 4 rfl) rfl rfl rfl ?_
    refine go_getr (r' := 379) (q := 13) fX11_16 (gDec iX11_change_ok 5 rfl) rfl (by decide) rfl ?_
    refine go_sipush (v := nI 2500) (q := 16) (gDec iX11_change_ok 6 rfl) (by decide) rfl ?_
    refine go_aload_n (q := 17) (gDec iX11_change_ok 7 rfl) rfl rfl rfl ?_
    refine go_getr (r' := 379) (q := 20) fX11_16 (gDec iX11_change_ok 8 rfl) rfl (by decide) rfl ?_
    refine go_iconst (v := nI 0) (q := 21) (gDec iX11_change_ok 9 rfl) (by decide) rfl ?_
    refine go_sipush (v := nI 17500) (q := 24) (gDec iX11_change_ok 10 rfl) (by decide) rfl ?_
    refine go_copy (q := 27) kX11_79 (gDec iX11_change_ok 11 rfl) rfl rfl (by decide) (by decide) (by decide) (by decide) (by decide) (by decide) (by decide) (Nat.le_of_ble_eq_true rfl) (gFit_rm (by decide) (by decide)) rfl ?_
    refine go_w (show _ = (gSA σ.1 379 (va_cpy (σ.1 379) (σ.1 379) 2500 0 17500), σ.2) from (by rw [nI_clamp (by decide), nI_clamp (by decide), nI_clamp (by decide)])) ?_
    refine go_aload_n (q := 28) (gDec iX11_change_ok 12 rfl) rfl rfl rfl ?_
    refine go_dup (q := 29) (gDec iX11_change_ok 13 rfl) rfl rfl ?_
    refine go_geti (q := 32) fX11_76 (gDec iX11_change_ok 14 rfl) rfl (by decide) rfl ?_
    refine go_top (v' := nI 8) (hn) ?_
    refine go_iconst (v := 1) (q := 33) (gDec iX11_change_ok 15 rfl) (by decide) rfl ?_
    refine go_isub (q := 34) (gDec iX11_change_ok 16 rfl) rfl ?_
    refine go_top (v' := nI 7) (nI_pred 7) ?_
    refine go_puti (q := 37) fX11_76 gft11 (gDec iX11_change_ok 17 rfl) rfl (by decide) rfl rfl rfl rfl ?_
    refine go_w (show _ = gPut (gSA σ.1 379 (va_cpy (σ.1 379) (σ.1 379) 2500 0 17500), σ.2) 376 4 (nI 7) from rfl) ?_
    refine go_aload_n (q := 38) (gDec iX11_change_ok 18 rfl) rfl rfl rfl ?_
    refine go_getr (r' := 377) (q := 41) fX11_9 (gDec iX11_change_ok 19 rfl) rfl (by decide) rfl ?_
    refine go_iconst (v := nI 0) (q := 42) (gDec iX11_change_ok 20 rfl) (by decide) rfl ?_
    refine go_aload_n (q := 43) (gDec iX11_change_ok 21 rfl) rfl rfl rfl ?_
    refine go_getr (r' := 379) (q := 46) fX11_16 (gDec iX11_change_ok 22 rfl) rfl (by decide) rfl ?_
    refine go_sipush (v := nI 2500) (q := 49) (gDec iX11_change_ok 23 rfl) (by decide) rfl ?_
    refine go_aload_n (q := 50) (gDec iX11_change_ok 24 rfl) rfl rfl rfl ?_
    refine go_geti (q := 53) fX11_76 (gDec iX11_change_ok 25 rfl) rfl (by decide) rfl ?_
    refine go_top (v' := nI 7) (rfl) ?_
    refine go_imulN (c := 2500 * 7) (q := 54) (gDec iX11_change_ok 26 rfl) rfl rfl ?_
    refine go_sipush (v := nI 2500) (q := 57) (gDec iX11_change_ok 27 rfl) (by decide) rfl ?_
    refine go_copy (q := 60) kX11_79 (gDec iX11_change_ok 28 rfl) rfl rfl (by decide) (by decide) (by decide) (nI_pos (by omega)) (by decide) (by decide) (by rw [nI_clamp (by omega), nI_clamp (by decide)]; omega) (Nat.le_of_ble_eq_true rfl) (gFit_rm (by decide) (by decide)) rfl ?_
    refine go_w (show _ = (gSA (gPut (gSA σ.1 379 (va_cpy (σ.1 379) (σ.1 379) 2500 0 17500), σ.2) 376 4 (nI 7)).1 379 (va_cpy (σ.1 377) (va_cpy (σ.1 379) (σ.1 379) 2500 0 17500) 0 (2500 * 7) 2500), σ.2) from (by rw [nI_clamp (by decide), nI_clamp (by decide), nI_clamp (by decide)]; rfl)) ?_
    refine go_aload_n (q := 61) (gDec iX11_change_ok 29 rfl) rfl rfl rfl ?_
    refine go_dup (q := 62) (gDec iX11_change_ok 30 rfl) rfl rfl ?_
    refine go_geti (q := 65) fX11_76 (gDec iX11_change_ok 31 rfl) rfl (by decide) rfl ?_
    refine go_top (v' := nI 7) (rfl) ?_
    refine go_iconst (v := nI 1) (q := 66) (gDec iX11_change_ok 32 rfl) (by decide) rfl ?_
    refine go_iaddN (c := 7 + 1) (q := 67) (gDec iX11_change_ok 33 rfl) rfl rfl ?_
    refine go_puti (q := 70) fX11_76 gft11 (gDec iX11_change_ok 34 rfl) rfl (by decide) rfl rfl rfl rfl ?_
    exact go_return (gDec iX11_change_ok 35 rfl) rfl rfl (by unfold gChg gChgP; rw [if_pos rfl, if_pos rfl]; exact (gChg_8 σ _ _ _ _).symm) (by decide)
  · skip
    refine go_aload_n (q := 1) (gDec iX11_change_ok 0 rfl) rfl rfl rfl ?_
    refine go_geti (q := 4) fX11_76 (gDec iX11_change_ok 1 rfl) rfl (by decide) rfl ?_
    refine go_top (v' := nI n) (hn) ?_
    refine go_bipush (v := nI 8) (q := 6) (gDec iX11_change_ok 2 rfl) (by decide) rfl ?_
    refine go_icmp_ne (t := 37) (q := 9) (gDec iX11_change_ok 3 rfl) (by decide) rfl (fun c6 => ?_) (fun c6 => False.elim (h8 ((nI_eq (by omega) (by decide)).mp c6)))
    refine go_aload_n (q := 38) (gDec iX11_change_ok 18 rfl) rfl rfl rfl ?_
    refine go_getr (r' := 377) (q := 41) fX11_9 (gDec iX11_change_ok 19 rfl) rfl (by decide) rfl ?_
    refine go_iconst (v := nI 0) (q := 42) (gDec iX11_change_ok 20 rfl) (by decide) rfl ?_
    refine go_aload_n (q := 43) (gDec iX11_change_ok 21 rfl) rfl rfl rfl ?_
    refine go_getr (r' := 379) (q := 46) fX11_16 (gDec iX11_change_ok 22 rfl) rfl (by decide) rfl ?_
    refine go_sipush (v := nI 2500) (q := 49) (gDec iX11_change_ok 23 rfl) (by decide) rfl ?_
    refine go_aload_n (q := 50) (gDec iX11_change_ok 24 rfl) rfl rfl rfl ?_
    refine go_geti (q := 53) fX11_76 (gDec iX11_change_ok 25 rfl) rfl (by decide) rfl ?_
    refine go_top (v' := nI n) (hn) ?_
    refine go_imulN (c := 2500 * n) (q := 54) (gDec iX11_change_ok 26 rfl) rfl rfl ?_
    refine go_sipush (v := nI 2500) (q := 57) (gDec iX11_change_ok 27 rfl) (by decide) rfl ?_
    refine go_copy (q := 60) kX11_79 (gDec iX11_change_ok 28 rfl) rfl rfl (by decide) (by decide) (by decide) (nI_pos (by omega)) (by decide) (by decide) (by rw [nI_clamp (by omega), nI_clamp (by decide)]; omega) (Nat.le_of_ble_eq_true rfl) (gFit_rm (by decide) (by decide)) rfl ?_
    refine go_w (show _ = (gSA σ.1 379 (va_cpy (σ.1 377) (σ.1 379) 0 (2500 * n) 2500), σ.2) from (by rw [nI_clamp (by decide), nI_clamp (by omega), nI_clamp (by decide)])) ?_
    refine go_aload_n (q := 61) (gDec iX11_change_ok 29 rfl) rfl rfl rfl ?_
    refine go_dup (q := 62) (gDec iX11_change_ok 30 rfl) rfl rfl ?_
    refine go_geti (q := 65) fX11_76 (gDec iX11_change_ok 31 rfl) rfl (by decide) rfl ?_
    refine go_top (v' := nI n) (hn) ?_
    refine go_iconst (v := nI 1) (q := 66) (gDec iX11_change_ok 32 rfl) (by decide) rfl ?_
    refine go_iaddN (c := n + 1) (q := 67) (gDec iX11_change_ok 33 rfl) rfl rfl ?_
    refine go_puti (q := 70) fX11_76 gft11 (gDec iX11_change_ok 34 rfl) rfl (by decide) rfl rfl rfl rfl ?_
    exact go_return (gDec iX11_change_ok 35 rfl) rfl rfl (by unfold gChg gChgP; rw [if_neg h8, if_neg h8]) (by decide)
