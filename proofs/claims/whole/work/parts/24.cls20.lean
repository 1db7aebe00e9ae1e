abbrev gInC (σ : gST) (g c : Int32) : Prop := gInG σ g ∧ 0 ≤ c.toInt ∧ c.toInt ≤ (gNc σ (nA g) : Int) - 1
abbrev gInP (σ : gST) (g c p : Int32) : Prop := gInC σ g c ∧ 0 ≤ p.toInt ∧ p.toInt ≤ (gNp σ (nA g) (nA c) : Int) - 1
abbrev gInS (σ : gST) (g s : Int32) : Prop := gInG σ g ∧ 0 ≤ s.toInt ∧ s.toInt ≤ 1
abbrev gInT (σ : gST) (g s : Int32) : Prop := gInG σ g ∧ 0 ≤ s.toInt ∧ s.toInt ≤ (gNs σ (nA g) : Int) - 1
theorem gIn_ex {n : Nat} {x : Int32} (h : 0 ≤ x.toInt ∧ x.toInt ≤ (n : Int) - 1) : ∃ k : Nat, k < n ∧ x = nI k := ⟨nA x, by unfold nA; omega, nA_n h.1⟩
theorem gInC.ex {σ : gST} {g c : Int32} (hW : gDW σ) (h : gInC σ g c) : ∃ i j : Nat, i < gNg σ ∧ j < gNc σ i ∧ g = nI i ∧ c = nI j := by
  obtain ⟨i, hi, rfl⟩ := gInG.ex h.1
  have h24 := hW.ng24
  have h2 := h.2
  rw [nA_nI (by omega)] at h2
  obtain ⟨j, hj, rfl⟩ := gIn_ex h2
  exact ⟨i, j, hi, hj, rfl, rfl⟩
theorem gInP.ex {σ : gST} {g c p : Int32} (hW : gDW σ) (h : gInP σ g c p) : ∃ i j q : Nat, i < gNg σ ∧ j < gNc σ i ∧ q < gNp σ i j ∧ g = nI i ∧ c = nI j ∧ p = nI q := by
  obtain ⟨i, j, hi, hj, rfl, rfl⟩ := gInC.ex hW h.1
  have h24 := hW.ng24
  have h3 := hW.nc3 (g := i) (by omega)
  have h2 := h.2
  rw [nA_nI (by omega), nA_nI (by omega)] at h2
  obtain ⟨q, hq, rfl⟩ := gIn_ex h2
  exact ⟨i, j, q, hi, hj, hq, rfl, rfl, rfl⟩
theorem gInT.ex {σ : gST} {g s : Int32} (hW : gDW σ) (h : gInT σ g s) : ∃ i j : Nat, i < gNg σ ∧ j < gNs σ i ∧ g = nI i ∧ s = nI j := by
  obtain ⟨i, hi, rfl⟩ := gInG.ex h.1
  have h24 := hW.ng24
  have h2 := h.2
  rw [nA_nI (by omega)] at h2
  obtain ⟨j, hj, rfl⟩ := gIn_ex h2
  exact ⟨i, j, hi, hj, rfl, rfl⟩
theorem gInS.ex {σ : gST} {g s : Int32} (h : gInS σ g s) : ∃ i j : Nat, i < gNg σ ∧ j < 2 ∧ g = nI i ∧ s = nI j := by
  obtain ⟨i, hi, rfl⟩ := gInG.ex h.1
  obtain ⟨j, hj, rfl⟩ := gIn_ex (n := 2) (show 0 ≤ s.toInt ∧ s.toInt ≤ ((2 : Nat) : Int) - 1 from h.2)
  exact ⟨i, j, hi, hj, rfl, rfl⟩
theorem ctX10_rG {κ : gK} {σ : gST} {i : Nat} (hW : gDW σ) (hi : i < gNg σ) : gCt κ mX10_requireGlyph 6 [.ref (κ.2.1 + 0), .int (nI i)] σ (.inl none) σ 0 := ctX10_requireGlyph hW (gInG.nI hW hi)
theorem ctX10_rC {κ : gK} {σ : gST} {i j : Nat} (hW : gDW σ) (hi : i < gNg σ) (hj : j < gNc σ i) : gCt κ mX10_requireContour 7 [.ref (κ.2.1 + 0), .int (nI i), .int (nI j)] σ (.inl none) σ 0 := by
  have h24 := hW.ng24
  have h3 := hW.nc3 (g := i) (by omega)
  exact ctX10_requireContour hW hi (by rw [nI_toInt (by omega)]; omega)
theorem ctX10_rP {κ : gK} {σ : gST} {i j q : Nat} (hW : gDW σ) (hi : i < gNg σ) (hj : j < gNc σ i) (hq : q < gNp σ i j) : gCt κ mX10_requirePoint 8 [.ref (κ.2.1 + 0), .int (nI i), .int (nI j), .int (nI q)] σ (.inl none) σ 0 := by
  have h24 := hW.ng24
  have h3 := hW.nc3 (g := i) (by omega)
  have h12 := hW.np12 (g := i) (c := j) (by omega) (by omega)
  exact ctX10_requirePoint hW hi hj (by rw [nI_toInt (by omega)]; omega)
theorem ctX10_rS {κ : gK} {σ : gST} {i j : Nat} (hW : gDW σ) (hi : i < gNg σ) (hj : j < 2) : gCt κ mX10_requireSide 7 [.ref (κ.2.1 + 0), .int (nI i), .int (nI j)] σ (.inl none) σ 0 :=
  ctX10_requireSide hW hi (by rw [nI_toInt (by omega)]; omega)
theorem ctX10_rT {κ : gK} {σ : gST} {i j : Nat} (hW : gDW σ) (hi : i < gNg σ) (hj : j < gNs σ i) : gCt κ mX10_requireStem 7 [.ref (κ.2.1 + 0), .int (nI i), .int (nI j)] σ (.inl none) σ 0 := by
  have h24 := hW.ng24
  have h4 := hW.ns4 (g := i) (by omega)
  exact ctX10_requireStem hW hi (by rw [nI_toInt (by omega)]; omega)
theorem ctX10_rCx {κ : gK} {σ : gST} {g c : Int32} (hW : gDW σ) (hh : ¬ gInC σ g c) : gCt κ mX10_requireContour 7 [.ref (κ.2.1 + 0), .int g, .int c] σ xIOB σ 1 := by
  by_cases hg : gInG σ g
  · obtain ⟨i, hi, rfl⟩ := gInG.ex hg
    have h24 := hW.ng24
    exact ctX10_requireContour_x hW hi (fun h => hh ⟨hg, by rw [nA_nI (by omega)]; exact h⟩)
  · exact ctX10_requireContour_g hW hg
theorem ctX10_rPx {κ : gK} {σ : gST} {g c p : Int32} (hW : gDW σ) (hh : ¬ gInP σ g c p) : gCt κ mX10_requirePoint 8 [.ref (κ.2.1 + 0), .int g, .int c, .int p] σ xIOB σ 1 := by
  by_cases hg : gInG σ g
  · by_cases hc : gInC σ g c
    · obtain ⟨i, j, hi, hj, rfl, rfl⟩ := gInC.ex hW hc
      have h24 := hW.ng24
      have h3 := hW.nc3 (g := i) (by omega)
      exact ctX10_requirePoint_x hW hi hj (fun h => hh ⟨hc, by rw [nA_nI (by omega), nA_nI (by omega)]; exact h⟩)
    · obtain ⟨i, hi, rfl⟩ := gInG.ex hg
      have h24 := hW.ng24
      exact ctX10_requirePoint_c hW hi (fun h => hc ⟨hg, by rw [nA_nI (by omega)]; exact h⟩)
  · exact ctX10_requirePoint_g hW hg
theorem ctX10_rSx {κ : gK} {σ : gST} {g s : Int32} (hW : gDW σ) (hh : ¬ gInS σ g s) : gCt κ mX10_requireSide 7 [.ref (κ.2.1 + 0), .int g, .int s] σ xIOB σ 1 := by
  by_cases hg : gInG σ g
  · obtain ⟨i, hi, rfl⟩ := gInG.ex hg
    exact ctX10_requireSide_x hW hi (fun h => hh ⟨hg, h⟩)
  · exact ctX10_requireSide_g hW hg
theorem ctX10_rTx {κ : gK} {σ : gST} {g s : Int32} (hW : gDW σ) (hh : ¬ gInT σ g s) : gCt κ mX10_requireStem 7 [.ref (κ.2.1 + 0), .int g, .int s] σ xIOB σ 1 := by
  by_cases hg : gInG σ g
  · obtain ⟨i, hi, rfl⟩ := gInG.ex hg
    have h24 := hW.ng24
    exact ctX10_requireStem_x hW hi (fun h => hh ⟨hg, by rw [nA_nI (by omega)]; exact h⟩)
  · exact ctX10_requireStem_g hW hg

def fPoints (σ : gST) (g c : Int32) : gO × gST := if gInC σ g c then (rI (σ.1 8 (nA g * 3 + nA c)), σ) else (xIOB, σ)
def fArea (σ : gST) (g c : Int32) : gO × gST := if gInC σ g c then (rI (gAr (σ.1 10) (σ.1 12) ((nA g * 3 + nA c) * 12) (gNp σ (nA g) (nA c))), σ) else (xIOB, σ)
def fPoint (σ : gST) (g c p y : Int32) : gO × gST := if gInP σ g c p then (rI (if y = 0 then σ.1 10 ((nA g * 3 + nA c) * 12 + nA p) else σ.1 12 ((nA g * 3 + nA c) * 12 + nA p)), σ) else (xIOB, σ)

set_option maxHeartbeats 4000000 in
set_option maxRecDepth 100000 in
theorem ctX10_points {κ : gK} {σ : gST} {g c : Int32} (hW : gDW σ) : gCt κ mX10_points 9 [.ref (κ.2.1 + 0), .int g, .int c] σ (fPoints σ g c).1 (fPoints σ g c).2 1 := by
  refine ct_of (by decide +kernel) rfl (Nat.le_of_ble_eq_true rfl) rfl ?_
  by_cases h1 : gInC σ g c
  · have hs : fPoints σ g c = _ := if_pos h1
    obtain ⟨i, j, hi, hj, rfl, rfl⟩ := gInC.ex hW h1
    have h24 := hW.ng24
    have h3 := hW.nc3 (g := i) (by omega)
    rw [hs, nA_nI (n := i) (by omega), nA_nI (n := j) (by omega)]
    refine go_aload_n (q := 1) (gDec iX10_points_ok 0 rfl) rfl rfl rfl ?_
    refine go_iload_n (q := 2) (gDec iX10_points_ok 1 rfl) rfl rfl rfl ?_
    refine go_iload_n (q := 3) (gDec iX10_points_ok 2 rfl) rfl rfl rfl ?_
    refine go_callV (n2 := 0) (q := 6) kX10_179 (ctX10_rC hW hi hj) (gDec iX10_points_ok 3 rfl) rfl rfl (by decide) rfl rfl rfl (Nat.le_of_ble_eq_true rfl) rfl (gFit_rm (by decide) (by decide)) rfl ?_
    refine go_aload_n (q := 7) (gDec iX10_points_ok 4 rfl) rfl rfl rfl ?_
    refine go_getr (r' := 1) (q := 10) fX10_10 (gDec iX10_points_ok 5 rfl) rfl (by decide) rfl ?_
    refine go_getr (r' := 2) (q := 13) fX10_70 (gDec iX10_points_ok 6 rfl) rfl (by decide) rfl ?_
    refine go_iload_n (q := 14) (gDec iX10_points_ok 7 rfl) rfl rfl rfl ?_
    refine go_iload_n (q := 15) (gDec iX10_points_ok 8 rfl) rfl rfl rfl ?_
    refine go_callV (n2 := 0) (q := 18) kX10_183 (ctX5_pointCount (g := i) (c := j) (by omega) (by omega)) (gDec iX10_points_ok 9 rfl) rfl rfl (by decide) rfl rfl rfl (Nat.le_of_ble_eq_true rfl) rfl (gFit_rm (by decide) (by decide)) rfl ?_
    exact go_ireturn (gDec iX10_points_ok 10 rfl) rfl rfl rfl rfl (by decide)
  · rw [show fPoints σ g c = (xIOB, σ) from if_neg h1]
    refine go_aload_n (q := 1) (gDec iX10_points_ok 0 rfl) rfl rfl rfl ?_
    refine go_iload_n (q := 2) (gDec iX10_points_ok 1 rfl) rfl rfl rfl ?_
    refine go_iload_n (q := 3) (gDec iX10_points_ok 2 rfl) rfl rfl rfl ?_
    exact go_callV_x kX10_179 (ctX10_rCx hW h1) (gDec iX10_points_ok 3 rfl) rfl rfl (by decide) rfl rfl rfl (Nat.le_of_ble_eq_true rfl) (gFit_rm (by decide) (by decide)) rfl

set_option maxHeartbeats 4000000 in
set_option maxRecDepth 100000 in
theorem ctX10_area {κ : gK} {σ : gST} {g c : Int32} (hW : gDW σ) : gCt κ mX10_area 9 [.ref (κ.2.1 + 0), .int g, .int c] σ (fArea σ g c).1 (fArea σ g c).2 1 := by
  refine ct_of (by decide +kernel) rfl (Nat.le_of_ble_eq_true rfl) rfl ?_
  by_cases h1 : gInC σ g c
  · have hs : fArea σ g c = _ := if_pos h1
    obtain ⟨i, j, hi, hj, rfl, rfl⟩ := gInC.ex hW h1
    have h24 := hW.ng24
    have h3 := hW.nc3 (g := i) (by omega)
    rw [hs, nA_nI (n := i) (by omega), nA_nI (n := j) (by omega)]
    refine go_aload_n (q := 1) (gDec iX10_area_ok 0 rfl) rfl rfl rfl ?_
    refine go_iload_n (q := 2) (gDec iX10_area_ok 1 rfl) rfl rfl rfl ?_
    refine go_iload_n (q := 3) (gDec iX10_area_ok 2 rfl) rfl rfl rfl ?_
    refine go_callV (n2 := 0) (q := 6) kX10_179 (ctX10_rC hW hi hj) (gDec iX10_area_ok 3 rfl) rfl rfl (by decide) rfl rfl rfl (Nat.le_of_ble_eq_true rfl) rfl (gFit_rm (by decide) (by decide)) rfl ?_
    refine go_aload_n (q := 7) (gDec iX10_area_ok 4 rfl) rfl rfl rfl ?_
    refine go_getr (r' := 1) (q := 10) fX10_10 (gDec iX10_area_ok 5 rfl) rfl (by decide) rfl ?_
    refine go_getr (r' := 2) (q := 13) fX10_70 (gDec iX10_area_ok 6 rfl) rfl (by decide) rfl ?_
    refine go_iload_n (q := 14) (gDec iX10_area_ok 7 rfl) rfl rfl rfl ?_
    refine go_iload_n (q := 15) (gDec iX10_area_ok 8 rfl) rfl rfl rfl ?_
    refine go_callV (n2 := 0) (q := 18) kX10_187 (ctX5_twiceArea (g := i) (c := j) (P := gNp σ i j) (by omega) (by omega) (hW.np12 (by omega) (by omega)) (hW.np (by omega) (by omega))) (gDec iX10_area_ok 9 rfl) rfl rfl (by decide) rfl rfl rfl (Nat.le_of_ble_eq_true rfl) rfl (gFit_rm (by decide) (by decide)) rfl ?_
    exact go_ireturn (gDec iX10_area_ok 10 rfl) rfl rfl rfl rfl (by decide)
  · rw [show fArea σ g c = (xIOB, σ) from if_neg h1]
    refine go_aload_n (q := 1) (gDec iX10_area_ok 0 rfl) rfl rfl rfl ?_
    refine go_iload_n (q := 2) (gDec iX10_area_ok 1 rfl) rfl rfl rfl ?_
    refine go_iload_n (q := 3) (gDec iX10_area_ok 2 rfl) rfl rfl rfl ?_
    exact go_callV_x kX10_179 (ctX10_rCx hW h1) (gDec iX10_area_ok 3 rfl) rfl rfl (by decide) rfl rfl rfl (Nat.le_of_ble_eq_true rfl) (gFit_rm (by decide) (by decide)) rfl

set_option maxHeartbeats 4000000 in
set_option maxRecDepth 100000 in
theorem ctX10_point {κ : gK} {σ : gST} {g c p y : Int32} (hW : gDW σ) : gCt κ mX10_point 9 [.ref (κ.2.1 + 0), .int g, .int c, .int p, .int y] σ (fPoint σ g c p y).1 (fPoint σ g c p y).2 1 := by
  refine ct_of (by decide +kernel) rfl (Nat.le_of_ble_eq_true rfl) rfl ?_
  by_cases h1 : gInP σ g c p
  · have hs : fPoint σ g c p y = _ := if_pos h1
    obtain ⟨i, j, q, hi, hj, hq, rfl, rfl, rfl⟩ := gInP.ex hW h1
    have h24 := hW.ng24
    have h3 := hW.nc3 (g := i) (by omega)
    have h12 := hW.np12 (g := i) (c := j) (by omega) (by omega)
    rw [hs, nA_nI (n := i) (by omega), nA_nI (n := j) (by omega), nA_nI (n := q) (by omega)]
    refine go_aload_n (q := 1) (gDec iX10_point_ok 0 rfl) rfl rfl rfl ?_
    refine go_iload_n (q := 2) (gDec iX10_point_ok 1 rfl) rfl rfl rfl ?_
    refine go_iload_n (q := 3) (gDec iX10_point_ok 2 rfl) rfl rfl rfl ?_
    refine go_iload_n (q := 4) (gDec iX10_point_ok 3 rfl) rfl rfl rfl ?_
    refine go_callV (n2 := 0) (q := 7) kX10_115 (ctX10_rP hW hi hj hq) (gDec iX10_point_ok 4 rfl) rfl rfl (by decide) rfl rfl rfl (Nat.le_of_ble_eq_true rfl) rfl (gFit_rm (by decide) (by decide)) rfl ?_
    refine go_iload (q := 9) (gDec iX10_point_ok 5 rfl) rfl rfl ?_
    refine go_if_eq (t := 28) (q := 12) (gDec iX10_point_ok 6 rfl) (by decide) rfl (fun c9 => ?_) (fun c9 => ?_)
    · refine go_aload_n (q := 29) (gDec iX10_point_ok 15 rfl) rfl rfl rfl ?_
      refine go_getr (r' := 1) (q := 32) fX10_10 (gDec iX10_point_ok 16 rfl) rfl (by decide) rfl ?_
      refine go_getr (r' := 2) (q := 35) fX10_70 (gDec iX10_point_ok 17 rfl) rfl (by decide) rfl ?_
      refine go_iload_n (q := 36) (gDec iX10_point_ok 18 rfl) rfl rfl rfl ?_
      refine go_iload_n (q := 37) (gDec iX10_point_ok 19 rfl) rfl rfl rfl ?_
      refine go_iload_n (q := 38) (gDec iX10_point_ok 20 rfl) rfl rfl rfl ?_
      refine go_callV (n2 := 0) (q := 41) kX10_119 (ctX5_xOf (g := i) (c := j) (p := q) (by omega) (by omega) (by omega)) (gDec iX10_point_ok 21 rfl) rfl rfl (by decide) rfl rfl rfl (Nat.le_of_ble_eq_true rfl) rfl (gFit_rm (by decide) (by decide)) rfl ?_
      exact go_ireturn (gDec iX10_point_ok 22 rfl) rfl rfl (by first | rw [if_pos c9] | rw [if_neg c9]) rfl (by decide)
    · refine go_aload_n (q := 13) (gDec iX10_point_ok 7 rfl) rfl rfl rfl ?_
      refine go_getr (r' := 1) (q := 16) fX10_10 (gDec iX10_point_ok 8 rfl) rfl (by decide) rfl ?_
      refine go_getr (r' := 2) (q := 19) fX10_70 (gDec iX10_point_ok 9 rfl) rfl (by decide) rfl ?_
      refine go_iload_n (q := 20) (gDec iX10_point_ok 10 rfl) rfl rfl rfl ?_
      refine go_iload_n (q := 21) (gDec iX10_point_ok 11 rfl) rfl rfl rfl ?_
      refine go_iload_n (q := 22) (gDec iX10_point_ok 12 rfl) rfl rfl rfl ?_
      refine go_callV (n2 := 0) (q := 25) kX10_123 (ctX5_yOf (g := i) (c := j) (p := q) (by omega) (by omega) (by omega)) (gDec iX10_point_ok 13 rfl) rfl rfl (by decide) rfl rfl rfl (Nat.le_of_ble_eq_true rfl) rfl (gFit_rm (by decide) (by decide)) rfl ?_
      refine go_goto (t := 41) (gDec iX10_point_ok 14 rfl) (by decide) ?_
      exact go_ireturn (gDec iX10_point_ok 22 rfl) rfl rfl (by first | rw [if_pos c9] | rw [if_neg c9]) rfl (by decide)
  · rw [show fPoint σ g c p y = (xIOB, σ) from if_neg h1]
    refine go_aload_n (q := 1) (gDec iX10_point_ok 0 rfl) rfl rfl rfl ?_
    refine go_iload_n (q := 2) (gDec iX10_point_ok 1 rfl) rfl rfl rfl ?_
    refine go_iload_n (q := 3) (gDec iX10_point_ok 2 rfl) rfl rfl rfl ?_
    refine go_iload_n (q := 4) (gDec iX10_point_ok 3 rfl) rfl rfl rfl ?_
    exact go_callV_x kX10_115 (ctX10_rPx hW h1) (gDec iX10_point_ok 4 rfl) rfl rfl (by decide) rfl rfl rfl (Nat.le_of_ble_eq_true rfl) (gFit_rm (by decide) (by decide)) rfl

def gFol (σ : gST) (G : Nat) : Int32 := gLoop (fun at_ a => if at_ = G then a else a + bI (gLd (gLe σ) G 49 (some at_))) 0 48 0
def fFollowers (σ : gST) (g s : Int32) : gO × gST := if gInS σ g s then (rI (gFol σ (nA g * 2 + nA s)), σ) else (xIOB, σ)
def fKern (σ : gST) (g h : Int32) : gO × gST := if gInG σ g ∧ gInG σ h then (rI (gKn σ (nA g) (nA h)), σ) else (xIOB, σ)

set_option maxHeartbeats 4000000 in
set_option maxRecDepth 100000 in
theorem ctX10_followers {κ : gK} {σ : gST} {g s : Int32} (hW : gDW σ) : gCt κ mX10_followers 9 [.ref (κ.2.1 + 0), .int g, .int s] σ (fFollowers σ g s).1 (fFollowers σ g s).2 1 := by
  refine ct_of (by decide +kernel) rfl (Nat.le_of_ble_eq_true rfl) rfl ?_
  by_cases h1 : gInS σ g s
  · have hs : fFollowers σ g s = _ := if_pos h1
    obtain ⟨i, j, hi, hj, rfl, rfl⟩ := gInS.ex h1
    have h24 := hW.ng24
    rw [hs, nA_nI (n := i) (by omega), nA_nI (n := j) (by omega)]
    refine go_aload_n (q := 1) (gDec iX10_followers_ok 0 rfl) rfl rfl rfl ?_
    refine go_iload_n (q := 2) (gDec iX10_followers_ok 1 rfl) rfl rfl rfl ?_
    refine go_iload_n (q := 3) (gDec iX10_followers_ok 2 rfl) rfl rfl rfl ?_
    refine go_callV (n2 := 0) (q := 6) kX10_190 (ctX10_rS hW hi hj) (gDec iX10_followers_ok 3 rfl) rfl rfl (by decide) rfl rfl rfl (Nat.le_of_ble_eq_true rfl) rfl (gFit_rm (by decide) (by decide)) rfl ?_
    refine go_aload_n (q := 7) (gDec iX10_followers_ok 4 rfl) rfl rfl rfl ?_
    refine go_getr (r' := 1) (q := 10) fX10_10 (gDec iX10_followers_ok 5 rfl) rfl (by decide) rfl ?_
    refine go_getr (r' := 13) (q := 13) fX10_199 (gDec iX10_followers_ok 6 rfl) rfl (by decide) rfl ?_
    refine go_iload_n (q := 14) (gDec iX10_followers_ok 7 rfl) rfl rfl rfl ?_
    refine go_iload_n (q := 15) (gDec iX10_followers_ok 8 rfl) rfl rfl rfl ?_
    refine go_callV (n2 := 0) (q := 18) kX10_244 (ctX0_followerCount (g := i) (t := j) (ld := gLe σ) (by omega) hj hW.le hW.le48) (gDec iX10_followers_ok 9 rfl) rfl rfl (by decide) rfl rfl rfl (Nat.le_of_ble_eq_true rfl) rfl (gFit_rm (by decide) (by decide)) rfl ?_
    exact go_ireturn (gDec iX10_followers_ok 10 rfl) rfl rfl rfl rfl (by decide)
  · rw [show fFollowers σ g s = (xIOB, σ) from if_neg h1]
    refine go_aload_n (q := 1) (gDec iX10_followers_ok 0 rfl) rfl rfl rfl ?_
    refine go_iload_n (q := 2) (gDec iX10_followers_ok 1 rfl) rfl rfl rfl ?_
    refine go_iload_n (q := 3) (gDec iX10_followers_ok 2 rfl) rfl rfl rfl ?_
    exact go_callV_x kX10_190 (ctX10_rSx hW h1) (gDec iX10_followers_ok 3 rfl) rfl rfl (by decide) rfl rfl rfl (Nat.le_of_ble_eq_true rfl) (gFit_rm (by decide) (by decide)) rfl

set_option maxHeartbeats 4000000 in
set_option maxRecDepth 100000 in
theorem ctX10_kern {κ : gK} {σ : gST} {g h : Int32} (hW : gDW σ) : gCt κ mX10_kern 9 [.ref (κ.2.1 + 0), .int g, .int h] σ (fKern σ g h).1 (fKern σ g h).2 1 := by
  refine ct_of (by decide +kernel) rfl (Nat.le_of_ble_eq_true rfl) rfl ?_
  by_cases h1 : gInG σ g
  · by_cases h2 : gInG σ h
    · have hs : fKern σ g h = _ := if_pos ⟨h1, h2⟩
      obtain ⟨i, hi, rfl⟩ := gInG.ex h1
      obtain ⟨j, hj, rfl⟩ := gInG.ex h2
      have h24 := hW.ng24
      rw [hs, nA_nI (n := i) (by omega), nA_nI (n := j) (by omega)]
      refine go_aload_n (q := 1) (gDec iX10_kern_ok 0 rfl) rfl rfl rfl ?_
      refine go_iload_n (q := 2) (gDec iX10_kern_ok 1 rfl) rfl rfl rfl ?_
      refine go_callV (n2 := 0) (q := 5) kX10_96 (ctX10_rG hW hi) (gDec iX10_kern_ok 2 rfl) rfl rfl (by decide) rfl rfl rfl (Nat.le_of_ble_eq_true rfl) rfl (gFit_rm (by decide) (by decide)) rfl ?_
      refine go_aload_n (q := 6) (gDec iX10_kern_ok 3 rfl) rfl rfl rfl ?_
      refine go_iload_n (q := 7) (gDec iX10_kern_ok 4 rfl) rfl rfl rfl ?_
      refine go_callV (n2 := 0) (q := 10) kX10_96 (ctX10_rG hW hj) (gDec iX10_kern_ok 5 rfl) rfl rfl (by decide) rfl rfl rfl (Nat.le_of_ble_eq_true rfl) rfl (gFit_rm (by decide) (by decide)) rfl ?_
      refine go_aload_n (q := 11) (gDec iX10_kern_ok 6 rfl) rfl rfl rfl ?_
      refine go_getr (r' := 1) (q := 14) fX10_10 (gDec iX10_kern_ok 7 rfl) rfl (by decide) rfl ?_
      refine go_getr (r' := 20) (q := 17) fX10_153 (gDec iX10_kern_ok 8 rfl) rfl (by decide) rfl ?_
      refine go_iload_n (q := 18) (gDec iX10_kern_ok 9 rfl) rfl rfl rfl ?_
      refine go_iload_n (q := 19) (gDec iX10_kern_ok 10 rfl) rfl rfl rfl ?_
      refine go_callV (n2 := 0) (q := 22) kX10_295 (ctX4_kernOf (g := i) (h := j) (x := gKx σ i) (y := gKy σ j) (by omega) (by omega) (hW.kx (by omega)) (hW.ky (by omega)) (hW.kx6 (by omega)) (hW.ky6 (by omega))) (gDec iX10_kern_ok 11 rfl) rfl rfl (by decide) rfl rfl rfl (Nat.le_of_ble_eq_true rfl) rfl (gFit_rm (by decide) (by decide)) rfl ?_
      exact go_ireturn (gDec iX10_kern_ok 12 rfl) rfl rfl rfl rfl (by decide)
    · rw [show fKern σ g h = (xIOB, σ) from if_neg (fun h9 => h2 h9.2)]
      obtain ⟨i, hi, rfl⟩ := gInG.ex h1
      refine go_aload_n (q := 1) (gDec iX10_kern_ok 0 rfl) rfl rfl rfl ?_
      refine go_iload_n (q := 2) (gDec iX10_kern_ok 1 rfl) rfl rfl rfl ?_
      refine go_callV (n2 := 0) (q := 5) kX10_96 (ctX10_rG hW hi) (gDec iX10_kern_ok 2 rfl) rfl rfl (by decide) rfl rfl rfl (Nat.le_of_ble_eq_true rfl) rfl (gFit_rm (by decide) (by decide)) rfl ?_
      refine go_aload_n (q := 6) (gDec iX10_kern_ok 3 rfl) rfl rfl rfl ?_
      refine go_iload_n (q := 7) (gDec iX10_kern_ok 4 rfl) rfl rfl rfl ?_
      exact go_callV_x kX10_96 (ctX10_requireGlyph_x hW h2) (gDec iX10_kern_ok 5 rfl) rfl rfl (by decide) rfl rfl rfl (Nat.le_of_ble_eq_true rfl) (gFit_rm (by decide) (by decide)) rfl
  · rw [show fKern σ g h = (xIOB, σ) from if_neg (fun h9 => h1 h9.1)]
    refine go_aload_n (q := 1) (gDec iX10_kern_ok 0 rfl) rfl rfl rfl ?_
    refine go_iload_n (q := 2) (gDec iX10_kern_ok 1 rfl) rfl rfl rfl ?_
    exact go_callV_x kX10_96 (ctX10_requireGlyph_x hW h1) (gDec iX10_kern_ok 2 rfl) rfl rfl (by decide) rfl rfl rfl (Nat.le_of_ble_eq_true rfl) (gFit_rm (by decide) (by decide)) rfl
