/-- the contours read -/
def gLp (t : Nat → Int32) (n : Nat) : Nat → Nat → Nat → Bool → (Nat → Int32) → (Nat → Int32) → Nat × Nat × Bool × Bool × (Nat → Int32) × (Nat → Int32)
  | 0, K, p, b, rd, rm => (K, p, false, b, rd, rm)
  | f + 1, K, p, b, rd, rm => if K = 0 ∨ p < n then
      (if rEw t n K p b rd = true then (K + 1, rEp t n K p b rd, true, (rRes t n K p b rd).2.2.2.1, (rRes t n K p b rd).2.2.2.2, rmU K (rRes t n K p b rd).1 rm)
       else gLp t n f (K + 1) (rEp t n K p b rd) (rRes t n K p b rd).2.2.2.1 (rRes t n K p b rd).2.2.2.2 (rmU K (rRes t n K p b rd).1 rm))
    else (K, p, false, b, rd, rm)
theorem gLp_e {t : Nat → Int32} {n f K p : Nat} {b : Bool} {rd rm : Nat → Int32} (h : ¬ (K = 0 ∨ p < n)) : gLp t n (f + 1) K p b rd rm = (K, p, false, b, rd, rm) := if_neg h
theorem gLp_w {t : Nat → Int32} {n f K p : Nat} {b : Bool} {rd rm : Nat → Int32} (h : K = 0 ∨ p < n) (h2 : rEw t n K p b rd = true) : gLp t n (f + 1) K p b rd rm = (K + 1, rEp t n K p b rd, true, (rRes t n K p b rd).2.2.2.1, (rRes t n K p b rd).2.2.2.2, rmU K (rRes t n K p b rd).1 rm) := (if_pos h).trans (if_pos h2)
theorem gLp_s {t : Nat → Int32} {n f K p : Nat} {b : Bool} {rd rm : Nat → Int32} (h : K = 0 ∨ p < n) (h2 : rEw t n K p b rd = false) : gLp t n (f + 1) K p b rd rm = gLp t n f (K + 1) (rEp t n K p b rd) (rRes t n K p b rd).2.2.2.1 (rRes t n K p b rd).2.2.2.2 (rmU K (rRes t n K p b rd).1 rm) := (if_pos h).trans (if_neg (fun h9 => by rw [h2] at h9; cases h9))
theorem wr_0 {σ : gST} {w : Bool} : gPut (gPut (gPut (gPut σ 376 18 0) 376 24 0) 376 20 0) 376 19 (o1 w) = wr σ 0 w false 0 (σ.1 388) (σ.1 389) := by
  refine Prod.ext (funext (fun k => funext (fun j => ?_))) rfl
  rw [gPut_at, gPut_at, gPut_at, gPut_at]
  unfold wr
  dsimp only
  by_cases h : k = 376
  · rw [if_pos h]
    by_cases h1 : j = 18
    · rw [if_pos h1, if_neg (by omega), if_neg (by omega), if_neg (by omega), if_pos ⟨h, h1⟩]; rfl
    · rw [if_neg h1]
      by_cases h2 : j = 19
      · rw [if_pos h2, if_pos ⟨h, h2⟩]
      · rw [if_neg h2, if_neg (fun h9 => h2 h9.2)]
        by_cases h3 : j = 20
        · rw [if_pos h3, if_pos ⟨h, h3⟩]; rfl
        · rw [if_neg h3, if_neg (fun h9 => h3 h9.2)]
          by_cases h4 : j = 24
          · rw [if_pos h4, if_pos ⟨h, h4⟩]; rfl
          · rw [if_neg h4, if_neg (fun h9 => h4 h9.2), if_neg (fun h9 => h1 h9.2), h]
  · rw [if_neg h, if_neg (fun h9 => h h9.1), if_neg (fun h9 => h h9.1), if_neg (fun h9 => h h9.1), if_neg (fun h9 => h h9.1)]
    by_cases h5 : k = 388
    · rw [if_pos h5, h5]
    · rw [if_neg h5]
      by_cases h6 : k = 389
      · rw [if_pos h6, h6]
      · rw [if_neg h6]

set_option maxHeartbeats 4000000 in
set_option maxRecDepth 100000 in
theorem ctX11_here0 {κ : gK} {σ : gST} {n p : Nat} (h18 : σ.1 376 18 = nI p) (h7 : σ.1 376 7 = nI n) (h60 : n ≤ 60) (hp : p ≤ n) : gCt κ mX11_here 0 [.ref (κ.2.1 + 376)] σ (.inl (some (.int (hr (σ.1 380) n p)))) σ 0 := by
  refine ct_of (by decide +kernel) rfl (Nat.le_of_ble_eq_true rfl) rfl ?_
  unfold hr
  by_cases h1 : p < n
  · rw [if_pos h1]
    refine go_aload_n (q := 1) (gDec iX11_here_ok 0 rfl) rfl rfl rfl ?_
    refine go_geti (q := 4) fX11_244 (gDec iX11_here_ok 1 rfl) rfl (by decide) rfl ?_
    refine go_top (v' := nI p) (h18) ?_
    refine go_aload_n (q := 5) (gDec iX11_here_ok 2 rfl) rfl rfl rfl ?_
    refine go_geti (q := 8) fX11_197 (gDec iX11_here_ok 3 rfl) rfl (by decide) rfl ?_
    refine go_top (v' := nI n) (h7) ?_
    refine go_icmp_ge (t := 23) (q := 11) (gDec iX11_here_ok 4 rfl) (by decide) rfl (fun c8 => False.elim (nI_ge (a := p) (b := n) h1 (by omega) c8)) (fun c8 => ?_)
    refine go_aload_n (q := 12) (gDec iX11_here_ok 5 rfl) rfl rfl rfl ?_
    refine go_getr (r' := 380) (q := 15) fX11_19 (gDec iX11_here_ok 6 rfl) rfl (by decide) rfl ?_
    refine go_aload_n (q := 16) (gDec iX11_here_ok 7 rfl) rfl rfl rfl ?_
    refine go_geti (q := 19) fX11_244 (gDec iX11_here_ok 8 rfl) rfl (by decide) rfl ?_
    refine go_top (v' := nI p) (h18) ?_
    refine go_caldN (q := 20) (gDec iX11_here_ok 9 rfl) rfl (by decide) (by omega) (by decide) rfl ?_
    refine go_top (v' := σ.1 380 p) (rfl) ?_
    refine go_goto (t := 24) (gDec iX11_here_ok 10 rfl) (by decide) ?_
    exact go_ireturn (gDec iX11_here_ok 12 rfl) rfl rfl rfl rfl (by decide)
  · rw [if_neg h1]
    refine go_aload_n (q := 1) (gDec iX11_here_ok 0 rfl) rfl rfl rfl ?_
    refine go_geti (q := 4) fX11_244 (gDec iX11_here_ok 1 rfl) rfl (by decide) rfl ?_
    refine go_top (v' := nI p) (h18) ?_
    refine go_aload_n (q := 5) (gDec iX11_here_ok 2 rfl) rfl rfl rfl ?_
    refine go_geti (q := 8) fX11_197 (gDec iX11_here_ok 3 rfl) rfl (by decide) rfl ?_
    refine go_top (v' := nI n) (h7) ?_
    refine go_icmp_ge (t := 23) (q := 11) (gDec iX11_here_ok 4 rfl) (by decide) rfl (fun c8 => ?_) (fun c8 => False.elim (c8 (nI_le (by omega) (by omega))))
    refine go_iconst (v := (-1)) (q := 24) (gDec iX11_here_ok 11 rfl) (by decide) rfl ?_
    exact go_ireturn (gDec iX11_here_ok 12 rfl) rfl rfl rfl rfl (by decide)

set_option maxHeartbeats 4000000 in
set_option maxRecDepth 100000 in
theorem lpX11_rg {κ : gK} {Z : gZ} {σ : gST} {n : Nat} {code : Int32} (h7 : σ.1 376 7 = nI n) (h60 : n ≤ 60) : ∀ (f K p : Nat) (b : Bool) (rd rm : Nat → Int32), n < p + f → p ≤ n → K + f < 500 → Go κ mX11_readGlyph (gRm 9 0) Z 94 [(0, .ref (κ.2.1 + 376)), (1, .int code)] [] (wr σ (gLp (σ.1 380) n f K p b rd rm).2.1 (gLp (σ.1 380) n f K p b rd rm).2.2.1 (gLp (σ.1 380) n f K p b rd rm).2.2.2.1 (gLp (σ.1 380) n f K p b rd rm).1 (gLp (σ.1 380) n f K p b rd rm).2.2.2.2.1 (gLp (σ.1 380) n f K p b rd rm).2.2.2.2.2) 0 → Go κ mX11_readGlyph (gRm 9 0) Z 62 [(0, .ref (κ.2.1 + 376)), (1, .int code)] [] (wr σ p false b K rd rm) 0 := by
  intro f
  induction f with
  | zero => intro K p b rd rm h1 h2 _ _; exact absurd h1 (by omega)
  | succ f ih =>
    intro K p b rd rm h1 hp hKf h
    by_cases hc : K = 0 ∨ p < n
    · obtain ⟨g1, g2, g3⟩ := rE_le (t := (σ.1 380)) (K := K) (b := b) (rd := rd) hp
      have hk : Go κ mX11_readGlyph (gRm 9 0) Z 62 [(0, .ref (κ.2.1 + 376)), (1, .int code)] [] (wr σ (rEp (σ.1 380) n K p b rd) (rEw (σ.1 380) n K p b rd) (rRes (σ.1 380) n K p b rd).2.2.2.1 (K + 1) (rRes (σ.1 380) n K p b rd).2.2.2.2 (rmU K (rRes (σ.1 380) n K p b rd).1 rm)) 0 := by
        cases e : rEw (σ.1 380) n K p b rd with
        | true =>
          rw [gLp_w hc e] at h
          dsimp only at h
          refine go_aload_n (q := 63) (gDec iX11_readGlyph_ok 34 rfl) rfl rfl rfl ?_
          refine go_geti (q := 66) fX11_247 (gDec iX11_readGlyph_ok 35 rfl) rfl (by decide) rfl ?_
          refine go_top (v' := 1) (rfl) ?_
          refine go_if_ne (t := 94) (q := 69) (gDec iX11_readGlyph_ok 36 rfl) (by decide) rfl (fun c66 => ?_) (fun c66 => False.elim (absurd c66 (by decide)))
          refine go_sub (L' := [(0, .ref (κ.2.1 + 376)), (1, .int code)]) ⟨rfl, rfl, trivial⟩ ?_
          exact h
        | false =>
          have g3 := g3 e
          rw [gLp_s hc e] at h
          exact ih (K + 1) (rEp (σ.1 380) n K p b rd) (rRes (σ.1 380) n K p b rd).2.2.2.1 (rRes (σ.1 380) n K p b rd).2.2.2.2 (rmU K (rRes (σ.1 380) n K p b rd).1 rm) (by omega) g2 (by omega) h
      clear ih h
      by_cases hK : K = 0
      · subst hK
        refine go_aload_n (q := 63) (gDec iX11_readGlyph_ok 34 rfl) rfl rfl rfl ?_
        refine go_geti (q := 66) fX11_247 (gDec iX11_readGlyph_ok 35 rfl) rfl (by decide) rfl ?_
        refine go_top (v' := 0) (rfl) ?_
        refine go_if_ne (t := 94) (q := 69) (gDec iX11_readGlyph_ok 36 rfl) (by decide) rfl (fun c66 => False.elim (c66 rfl)) (fun c66 => ?_)
        refine go_aload_n (q := 70) (gDec iX11_readGlyph_ok 37 rfl) rfl rfl rfl ?_
        refine go_geti (q := 73) fX11_267 (gDec iX11_readGlyph_ok 38 rfl) rfl (by decide) rfl ?_
        refine go_top (v' := 0) (rfl) ?_
        refine go_if_eq (t := 87) (q := 76) (gDec iX11_readGlyph_ok 39 rfl) (by decide) rfl (fun c73 => ?_) (fun c73 => False.elim (c73 rfl))
        refine go_aload_n (q := 88) (gDec iX11_readGlyph_ok 45 rfl) rfl rfl rfl ?_
        refine go_callV (n2 := 0) (q := 91) kX11_270 (ctX11_readContour (K := 0) h7 h60 hp (by omega)) (gDec iX11_readGlyph_ok 46 rfl) rfl rfl (by decide) rfl rfl rfl (Nat.le_of_ble_eq_true rfl) rfl (gFit_rm (by decide) (by decide)) rfl ?_
        refine go_goto (t := 62) (gDec iX11_readGlyph_ok 47 rfl) (by decide) ?_
        refine go_sub (L' := [(0, .ref (κ.2.1 + 376)), (1, .int code)]) ⟨rfl, rfl, trivial⟩ ?_
        exact hk
      · have hpn : p < n := hc.resolve_left hK
        refine go_aload_n (q := 63) (gDec iX11_readGlyph_ok 34 rfl) rfl rfl rfl ?_
        refine go_geti (q := 66) fX11_247 (gDec iX11_readGlyph_ok 35 rfl) rfl (by decide) rfl ?_
        refine go_top (v' := 0) (rfl) ?_
        refine go_if_ne (t := 94) (q := 69) (gDec iX11_readGlyph_ok 36 rfl) (by decide) rfl (fun c66 => False.elim (c66 rfl)) (fun c66 => ?_)
        refine go_aload_n (q := 70) (gDec iX11_readGlyph_ok 37 rfl) rfl rfl rfl ?_
        refine go_geti (q := 73) fX11_267 (gDec iX11_readGlyph_ok 38 rfl) rfl (by decide) rfl ?_
        refine go_top (v' := nI K) (rfl) ?_
        refine go_if_eq (t := 87) (q := 76) (gDec iX11_readGlyph_ok 39 rfl) (by decide) rfl (fun c73 => False.elim (nI_ne0 (n := K) (by omega) (by omega) c73)) (fun c73 => ?_)
        refine go_aload_n (q := 77) (gDec iX11_readGlyph_ok 40 rfl) rfl rfl rfl ?_
        refine go_geti (q := 80) fX11_244 (gDec iX11_readGlyph_ok 41 rfl) rfl (by decide) rfl ?_
        refine go_top (v' := nI p) (rfl) ?_
        refine go_aload_n (q := 81) (gDec iX11_readGlyph_ok 42 rfl) rfl rfl rfl ?_
        refine go_geti (q := 84) fX11_197 (gDec iX11_readGlyph_ok 43 rfl) rfl (by decide) rfl ?_
        refine go_top (v' := nI n) (h7) ?_
        refine go_icmp_ge (t := 94) (q := 87) (gDec iX11_readGlyph_ok 44 rfl) (by decide) rfl (fun c84 => False.elim (nI_ge (a := p) (b := n) (by omega) (by omega) c84)) (fun c84 => ?_)
        refine go_aload_n (q := 88) (gDec iX11_readGlyph_ok 45 rfl) rfl rfl rfl ?_
        refine go_callV (n2 := 0) (q := 91) kX11_270 (ctX11_readContour (K := K) h7 h60 hp (by omega)) (gDec iX11_readGlyph_ok 46 rfl) rfl rfl (by decide) rfl rfl rfl (Nat.le_of_ble_eq_true rfl) rfl (gFit_rm (by decide) (by decide)) rfl ?_
        refine go_goto (t := 62) (gDec iX11_readGlyph_ok 47 rfl) (by decide) ?_
        refine go_sub (L' := [(0, .ref (κ.2.1 + 376)), (1, .int code)]) ⟨rfl, rfl, trivial⟩ ?_
        exact hk
    · rw [gLp_e hc] at h
      dsimp only at h
      have hK : ¬ K = 0 := fun h9 => hc (Or.inl h9)
      have hpn : ¬ p < n := fun h9 => hc (Or.inr h9)
      refine go_aload_n (q := 63) (gDec iX11_readGlyph_ok 34 rfl) rfl rfl rfl ?_
      refine go_geti (q := 66) fX11_247 (gDec iX11_readGlyph_ok 35 rfl) rfl (by decide) rfl ?_
      refine go_top (v' := 0) (rfl) ?_
      refine go_if_ne (t := 94) (q := 69) (gDec iX11_readGlyph_ok 36 rfl) (by decide) rfl (fun c66 => False.elim (c66 rfl)) (fun c66 => ?_)
      refine go_aload_n (q := 70) (gDec iX11_readGlyph_ok 37 rfl) rfl rfl rfl ?_
      refine go_geti (q := 73) fX11_267 (gDec iX11_readGlyph_ok 38 rfl) rfl (by decide) rfl ?_
      refine go_top (v' := nI K) (rfl) ?_
      refine go_if_eq (t := 87) (q := 76) (gDec iX11_readGlyph_ok 39 rfl) (by decide) rfl (fun c73 => False.elim (nI_ne0 (n := K) (by omega) (by omega) c73)) (fun c73 => ?_)
      refine go_aload_n (q := 77) (gDec iX11_readGlyph_ok 40 rfl) rfl rfl rfl ?_
      refine go_geti (q := 80) fX11_244 (gDec iX11_readGlyph_ok 41 rfl) rfl (by decide) rfl ?_
      refine go_top (v' := nI p) (rfl) ?_
      refine go_aload_n (q := 81) (gDec iX11_readGlyph_ok 42 rfl) rfl rfl rfl ?_
      refine go_geti (q := 84) fX11_197 (gDec iX11_readGlyph_ok 43 rfl) rfl (by decide) rfl ?_
      refine go_top (v' := nI n) (h7) ?_
      refine go_icmp_ge (t := 94) (q := 87) (gDec iX11_readGlyph_ok 44 rfl) (by decide) rfl (fun c84 => ?_) (fun c84 => False.elim (c84 (nI_le (by omega) (by omega))))
      refine go_sub (L' := [(0, .ref (κ.2.1 + 376)), (1, .int code)]) ⟨rfl, rfl, trivial⟩ ?_
      exact h
