theorem rLp_le {t : Nat → Int32} {n K : Nat} : ∀ (f q p : Nat) (b : Bool) (rd : Nat → Int32), p ≤ n → p ≤ (rLp t n K f q p b rd).2.1 ∧ (rLp t n K f q p b rd).2.1 ≤ n := by
  intro f
  induction f with
  | zero => intro q p b rd h; exact ⟨Nat.le_refl _, h⟩
  | succ f ih =>
    intro q p b rd h
    obtain ⟨h1, h2, -⟩ := rP4_le (t := t) (q := q) h
    unfold rLp
    split
    · have := ih (q + 1) (rP4 t n q p) (bF q K (rB4 t n q p b) (rW4 t n q p)) (rD q K (rPx t n q p) (rPy t n q p) rd) h2
      omega
    · exact ⟨h1, h2⟩
theorem rLp_y {t : Nat → Int32} {n K f q p : Nat} {b : Bool} {rd : Nat → Int32} (h : rW4 t n q p = false ∧ mF t n q (rP4 t n q p) = true) : rLp t n K (f + 1) q p b rd = rLp t n K f (q + 1) (rP4 t n q p) (bF q K (rB4 t n q p b) (rW4 t n q p)) (rD q K (rPx t n q p) (rPy t n q p) rd) := if_pos h
theorem rLp_n {t : Nat → Int32} {n K f q p : Nat} {b : Bool} {rd : Nat → Int32} (h : ¬ (rW4 t n q p = false ∧ mF t n q (rP4 t n q p) = true)) : rLp t n K (f + 1) q p b rd = (q + 1, rP4 t n q p, rW4 t n q p, bF q K (rB4 t n q p b) (rW4 t n q p), rD q K (rPx t n q p) (rPy t n q p) rd) := if_neg h

set_option maxHeartbeats 4000000 in
set_option maxRecDepth 100000 in
theorem lpX11_rcB {κ : gK} {Z : gZ} {σ : gST} {q p n : Nat} {w b : Bool} {K : Nat} {rd rm : Nat → Int32} (h7 : σ.1 376 7 = nI n) (h60 : n ≤ 60) (hp : p ≤ n) (h : Go κ mX11_readContour (gRm 4 0) Z 48 [(0, .ref (κ.2.1 + 376)), (1, .int (nI q)), (3, .int (rPx (σ.1 380) n q p)), (4, .int (rPy (σ.1 380) n q p))] [] (wr σ (rP4 (σ.1 380) n q p) (rW4 (σ.1 380) n q p) (rB4 (σ.1 380) n q p b) K rd rm) 0) : Go κ mX11_readContour (gRm 4 0) Z 31 [(0, .ref (κ.2.1 + 376)), (1, .int (nI q))] [] (wr σ (rS1 (σ.1 380) n q p).1 (rS1 (σ.1 380) n q p).2 b K rd rm) 0 := by
  refine go_aload_n (q := 32) (gDec iX11_readContour_ok 17 rfl) rfl rfl rfl ?_
  refine go_callV (n2 := 0) (q := 35) kX11_264 (ctX11_coordinate (p := (rS1 (σ.1 380) n q p).1) (w := (rS1 (σ.1 380) n q p).2) h7 h60 (rS1_le hp).2) (gDec iX11_readContour_ok 18 rfl) rfl rfl (by decide) rfl rfl rfl (Nat.le_of_ble_eq_true rfl) rfl (gFit_rm (by decide) (by decide)) rfl ?_
  refine go_w (show _ = (wr σ (rP2 (σ.1 380) n q p) (rW2 (σ.1 380) n q p) (rB2 (σ.1 380) n q p b) K rd rm) from rfl) ?_
  refine go_istore_n (q := 36) (gDec iX11_readContour_ok 19 rfl) rfl (by decide) rfl ?_
  refine go_aload_n (q := 37) (gDec iX11_readContour_ok 20 rfl) rfl rfl rfl ?_
  refine go_bipush (v := 44) (q := 39) (gDec iX11_readContour_ok 21 rfl) (by decide) rfl ?_
  refine go_callV (n2 := 0) (q := 42) kX11_261 (ctX11_wants (p := rP2 (σ.1 380) n q p) (w := rW2 (σ.1 380) n q p) (c := 44) h7 h60 (rP2_le hp).2) (gDec iX11_readContour_ok 22 rfl) rfl rfl (by decide) rfl rfl rfl (Nat.le_of_ble_eq_true rfl) rfl (gFit_rm (by decide) (by decide)) rfl ?_
  refine go_w (show _ = (wr σ (rP3 (σ.1 380) n q p) (rW3 (σ.1 380) n q p) (rB2 (σ.1 380) n q p b) K rd rm) from rfl) ?_
  refine go_aload_n (q := 43) (gDec iX11_readContour_ok 23 rfl) rfl rfl rfl ?_
  refine go_callV (n2 := 0) (q := 46) kX11_264 (ctX11_coordinate (p := rP3 (σ.1 380) n q p) (w := rW3 (σ.1 380) n q p) (b := rB2 (σ.1 380) n q p b) h7 h60 (rP3_le hp).2.1) (gDec iX11_readContour_ok 24 rfl) rfl rfl (by decide) rfl rfl rfl (Nat.le_of_ble_eq_true rfl) rfl (gFit_rm (by decide) (by decide)) rfl ?_
  refine go_w (show _ = (wr σ (rP4 (σ.1 380) n q p) (rW4 (σ.1 380) n q p) (rB4 (σ.1 380) n q p b) K rd rm) from rfl) ?_
  refine go_istore (q := 48) (gDec iX11_readContour_ok 25 rfl) (by decide) rfl ?_
  refine go_sub (L' := [(0, .ref (κ.2.1 + 376)), (1, .int (nI q)), (3, .int (rPx (σ.1 380) n q p)), (4, .int (rPy (σ.1 380) n q p))]) ⟨rfl, rfl, rfl, rfl, trivial⟩ ?_
  exact h

set_option maxHeartbeats 4000000 in
set_option maxRecDepth 100000 in
theorem lpX11_rcA {κ : gK} {Z : gZ} {σ : gST} {q p n : Nat} {w b : Bool} {K : Nat} {rd rm : Nat → Int32} (h7 : σ.1 376 7 = nI n) (h60 : n ≤ 60) (hp : p ≤ n) (hq9 : q < 1000) (h : Go κ mX11_readContour (gRm 4 0) Z 31 [(0, .ref (κ.2.1 + 376)), (1, .int (nI q))] [] (wr σ (rS1 (σ.1 380) n q p).1 (rS1 (σ.1 380) n q p).2 b K rd rm) 0) : Go κ mX11_readContour (gRm 4 0) Z 10 [(0, .ref (κ.2.1 + 376)), (1, .int (nI q)), (2, .int 1)] [] (wr σ p false b K rd rm) 0 := by
  by_cases hq : 0 < q
  · rw [show rS1 (σ.1 380) n q p = (wP (σ.1 380) n 32 p false, wW (σ.1 380) n 32 p false) from if_pos hq] at h
    refine go_iload_n (q := 11) (gDec iX11_readContour_ok 7 rfl) rfl rfl rfl ?_
    refine go_if_eq (t := 165) (q := 14) (gDec iX11_readContour_ok 8 rfl) (by decide) rfl (fun c11 => False.elim (absurd c11 (by decide))) (fun c11 => ?_)
    refine go_aload_n (q := 15) (gDec iX11_readContour_ok 9 rfl) rfl rfl rfl ?_
    refine go_geti (q := 18) fX11_247 (gDec iX11_readContour_ok 10 rfl) rfl (by decide) rfl ?_
    refine go_top (v' := 0) (rfl) ?_
    refine go_if_ne (t := 165) (q := 21) (gDec iX11_readContour_ok 11 rfl) (by decide) rfl (fun c18 => False.elim (c18 rfl)) (fun c18 => ?_)
    refine go_iload_n (q := 22) (gDec iX11_readContour_ok 12 rfl) rfl rfl rfl ?_
    refine go_if_le (t := 31) (q := 25) (gDec iX11_readContour_ok 13 rfl) (by decide) rfl (fun c22 => False.elim (nI_nle (n := q) (by omega) (by omega) c22)) (fun c22 => ?_)
    refine go_aload_n (q := 26) (gDec iX11_readContour_ok 14 rfl) rfl rfl rfl ?_
    refine go_bipush (v := 32) (q := 28) (gDec iX11_readContour_ok 15 rfl) (by decide) rfl ?_
    refine go_callV (n2 := 0) (q := 31) kX11_261 (ctX11_wants (p := p) (w := false) (c := 32) h7 h60 hp) (gDec iX11_readContour_ok 16 rfl) rfl rfl (by decide) rfl rfl rfl (Nat.le_of_ble_eq_true rfl) rfl (gFit_rm (by decide) (by decide)) rfl ?_
    refine go_sub (L' := [(0, .ref (κ.2.1 + 376)), (1, .int (nI q))]) ⟨rfl, rfl, trivial⟩ ?_
    exact h
  · have hq0 : q = 0 := by omega
    subst hq0
    rw [show rS1 (σ.1 380) n 0 p = (p, false) from if_neg hq] at h
    refine go_iload_n (q := 11) (gDec iX11_readContour_ok 7 rfl) rfl rfl rfl ?_
    refine go_if_eq (t := 165) (q := 14) (gDec iX11_readContour_ok 8 rfl) (by decide) rfl (fun c11 => False.elim (absurd c11 (by decide))) (fun c11 => ?_)
    refine go_aload_n (q := 15) (gDec iX11_readContour_ok 9 rfl) rfl rfl rfl ?_
    refine go_geti (q := 18) fX11_247 (gDec iX11_readContour_ok 10 rfl) rfl (by decide) rfl ?_
    refine go_top (v' := 0) (rfl) ?_
    refine go_if_ne (t := 165) (q := 21) (gDec iX11_readContour_ok 11 rfl) (by decide) rfl (fun c18 => False.elim (c18 rfl)) (fun c18 => ?_)
    refine go_iload_n (q := 22) (gDec iX11_readContour_ok 12 rfl) rfl rfl rfl ?_
    refine go_if_le (t := 31) (q := 25) (gDec iX11_readContour_ok 13 rfl) (by decide) rfl (fun c22 => ?_) (fun c22 => False.elim (c22 (by decide)))
    refine go_sub (L' := [(0, .ref (κ.2.1 + 376)), (1, .int (nI 0))]) ⟨rfl, rfl, trivial⟩ ?_
    exact h

set_option maxHeartbeats 4000000 in
set_option maxRecDepth 100000 in
theorem lpX11_rcL {κ : gK} {Z : gZ} {σ : gST} {n K : Nat} {rm : Nat → Int32} (h7 : σ.1 376 7 = nI n) (h60 : n ≤ 60) (hK : K < 1000) : ∀ (f q p : Nat) (b : Bool) (rd : Nat → Int32), n < p + f → p ≤ n → q + f < 500 → Go κ mX11_readContour (gRm 4 0) Z 165 [(0, .ref (κ.2.1 + 376)), (1, .int (nI (rLp (σ.1 380) n K f q p b rd).1))] [] (wr σ (rLp (σ.1 380) n K f q p b rd).2.1 (rLp (σ.1 380) n K f q p b rd).2.2.1 (rLp (σ.1 380) n K f q p b rd).2.2.2.1 K (rLp (σ.1 380) n K f q p b rd).2.2.2.2 rm) 0 → Go κ mX11_readContour (gRm 4 0) Z 10 [(0, .ref (κ.2.1 + 376)), (1, .int (nI q)), (2, .int 1)] [] (wr σ p false b K rd rm) 0 := by
  intro f
  induction f with
  | zero => intro q p b rd h1 h2 _ _; exact absurd h1 (by omega)
  | succ f ih =>
    intro q p b rd h1 hp hqf h
    obtain ⟨g1, g2, g3⟩ := rP4_le (t := (σ.1 380)) (q := q) hp
    refine lpX11_rcA (w := false) h7 h60 hp (by omega) ?_
    refine lpX11_rcB (w := false) h7 h60 hp ?_
    refine lpX11_rcC (n := n) (by omega) hK ?_
    refine lpX11_rcD (n := n) ?_
    refine lpX11_rcE h7 h60 g2 (by omega) ?_
    obtain ⟨m4, hm4⟩ : ∃ m4, mF (σ.1 380) n q (rP4 (σ.1 380) n q p) = m4 := ⟨_, rfl⟩
    obtain ⟨w4, hw4⟩ : ∃ w4, rW4 (σ.1 380) n q p = w4 := ⟨_, rfl⟩
    have ih2 := ih (q + 1) (rP4 (σ.1 380) n q p) (bF q K (rB4 (σ.1 380) n q p b) (rW4 (σ.1 380) n q p)) (rD q K (rPx (σ.1 380) n q p) (rPy (σ.1 380) n q p) rd)
    clear ih
    cases w4 with
    | true =>
      rw [rLp_n (fun h9 => by rw [hw4] at h9; cases h9.1)] at h
      dsimp only at h
      rw [hw4] at h ⊢
      rw [hm4]
      cases m4 with
      | true =>
        refine go_iload_n (q := 11) (gDec iX11_readContour_ok 7 rfl) rfl rfl rfl ?_
        refine go_if_eq (t := 165) (q := 14) (gDec iX11_readContour_ok 8 rfl) (by decide) rfl (fun c11 => False.elim (absurd c11 (by decide))) (fun c11 => ?_)
        refine go_aload_n (q := 15) (gDec iX11_readContour_ok 9 rfl) rfl rfl rfl ?_
        refine go_geti (q := 18) fX11_247 (gDec iX11_readContour_ok 10 rfl) rfl (by decide) rfl ?_
        refine go_top (v' := 1) (rfl) ?_
        refine go_if_ne (t := 165) (q := 21) (gDec iX11_readContour_ok 11 rfl) (by decide) rfl (fun c18 => ?_) (fun c18 => False.elim (absurd c18 (by decide)))
        refine go_sub (L' := [(0, .ref (κ.2.1 + 376)), (1, .int (nI (q + 1)))]) ⟨rfl, rfl, trivial⟩ ?_
        exact h
      | false =>
        refine go_iload_n (q := 11) (gDec iX11_readContour_ok 7 rfl) rfl rfl rfl ?_
        refine go_if_eq (t := 165) (q := 14) (gDec iX11_readContour_ok 8 rfl) (by decide) rfl (fun c11 => ?_) (fun c11 => False.elim (c11 rfl))
        refine go_sub (L' := [(0, .ref (κ.2.1 + 376)), (1, .int (nI (q + 1)))]) ⟨rfl, rfl, trivial⟩ ?_
        exact h
    | false =>
      have g3 := g3 hw4
      cases m4 with
      | true =>
        rw [rLp_y ⟨hw4, hm4⟩] at h
        have ih3 := ih2 (by omega) g2 (by omega) h
        rw [hw4] at ih3 ⊢
        rw [hm4]
        exact ih3
      | false =>
        rw [rLp_n (fun h9 => by rw [hm4] at h9; cases h9.2)] at h
        dsimp only at h
        rw [hw4] at h ⊢
        rw [hm4]
        refine go_iload_n (q := 11) (gDec iX11_readContour_ok 7 rfl) rfl rfl rfl ?_
        refine go_if_eq (t := 165) (q := 14) (gDec iX11_readContour_ok 8 rfl) (by decide) rfl (fun c11 => ?_) (fun c11 => False.elim (c11 rfl))
        refine go_sub (L' := [(0, .ref (κ.2.1 + 376)), (1, .int (nI (q + 1)))]) ⟨rfl, rfl, trivial⟩ ?_
        exact h
