def rM (q : Nat) : Int32 := if (12 : Int32) < nI q then 12 else nI q
def rmU (K q : Nat) (rm : Nat → Int32) : Nat → Int32 := if K < 3 then upd rm K (rM q) else rm
/-- a contour read, all but its end -/
def rRes (t : Nat → Int32) (n K p : Nat) (b : Bool) (rd : Nat → Int32) : Nat × Nat × Bool × Bool × (Nat → Int32) := if wW t n 40 p false = true then (0, p, true, b, rd) else rLp t n K 61 0 (p + 1) b rd
theorem rRes_le {t : Nat → Int32} {n K p : Nat} {b : Bool} {rd : Nat → Int32} (h : p ≤ n) : p ≤ (rRes t n K p b rd).2.1 ∧ (rRes t n K p b rd).2.1 ≤ n ∧ ((rRes t n K p b rd).2.2.1 = false → p + 1 ≤ (rRes t n K p b rd).2.1) := by
  unfold rRes
  split
  · exact ⟨Nat.le_refl _, h, fun h9 => by cases h9⟩
  · rename_i h1
    have h2 : p < n := by
      unfold wW at h1
      by_cases h3 : false = true ∨ ¬ hr t n p = 40
      · rw [if_pos h3] at h1; exact absurd rfl h1
      · exact hr_lt (c := 40) (Classical.not_not.mp (fun h9 => h3 (Or.inr h9))) (by decide)
    have := rLp_le (t := t) (n := n) (K := K) 61 0 (p + 1) b rd h2
    exact ⟨by omega, this.2, fun _ => this.1⟩
/-- where a contour ends -/
def rEp (t : Nat → Int32) (n K p : Nat) (b : Bool) (rd : Nat → Int32) : Nat := wP t n 41 (rRes t n K p b rd).2.1 (rRes t n K p b rd).2.2.1
def rEw (t : Nat → Int32) (n K p : Nat) (b : Bool) (rd : Nat → Int32) : Bool := wW t n 41 (rRes t n K p b rd).2.1 (rRes t n K p b rd).2.2.1
theorem rE_le {t : Nat → Int32} {n K p : Nat} {b : Bool} {rd : Nat → Int32} (h : p ≤ n) : p ≤ rEp t n K p b rd ∧ rEp t n K p b rd ≤ n ∧ (rEw t n K p b rd = false → p + 1 ≤ rEp t n K p b rd) := by
  obtain ⟨h1, h2, h3⟩ := rRes_le (t := t) (K := K) (b := b) (rd := rd) h
  have h4 : (rRes t n K p b rd).2.1 ≤ rEp t n K p b rd := by
    unfold rEp wP
    split <;> omega
  refine ⟨by omega, wP_le h2 (by decide), fun h9 => ?_⟩
  have h5 : (rRes t n K p b rd).2.2.1 = false := by
    cases h6 : (rRes t n K p b rd).2.2.1 with
    | false => rfl
    | true =>
      unfold rEw wW at h9
      rw [if_pos (Or.inl h6)] at h9; cases h9
  have := h3 h5
  omega

set_option maxHeartbeats 4000000 in
set_option maxRecDepth 100000 in
theorem lpX11_rcZ {κ : gK} {σ : gST} {q p n : Nat} {w b : Bool} {K : Nat} {rd rm : Nat → Int32} (h7 : σ.1 376 7 = nI n) (h60 : n ≤ 60) (hp : p ≤ n) (hK : K < 1000) : Go κ mX11_readContour (gRm 4 0) (gZm κ (.inl none) (wr σ (wP (σ.1 380) n 41 p w) (wW (σ.1 380) n 41 p w) b (K + 1) rd (rmU K q rm)) 0) 165 [(0, .ref (κ.2.1 + 376)), (1, .int (nI q))] [] (wr σ p w b K rd rm) 0 := by
  by_cases h1 : K < 3
  · rw [show rmU K q rm = upd rm K (rM q) from if_pos h1]
    refine go_aload_n (q := 166) (gDec iX11_readContour_ok 91 rfl) rfl rfl rfl ?_
    refine go_bipush (v := 41) (q := 168) (gDec iX11_readContour_ok 92 rfl) (by decide) rfl ?_
    refine go_callV (n2 := 0) (q := 171) kX11_261 (ctX11_wants (c := 41) h7 h60 hp) (gDec iX11_readContour_ok 93 rfl) rfl rfl (by decide) rfl rfl rfl (Nat.le_of_ble_eq_true rfl) rfl (gFit_rm (by decide) (by decide)) rfl ?_
    refine go_aload_n (q := 172) (gDec iX11_readContour_ok 94 rfl) rfl rfl rfl ?_
    refine go_geti (q := 175) fX11_267 (gDec iX11_readContour_ok 95 rfl) rfl (by decide) rfl ?_
    refine go_top (v' := nI K) (rfl) ?_
    refine go_iconst (v := nI 3) (q := 176) (gDec iX11_readContour_ok 96 rfl) (by decide) rfl ?_
    refine go_icmp_ge (t := 194) (q := 179) (gDec iX11_readContour_ok 97 rfl) (by decide) rfl (fun c176 => False.elim (nI_ge (a := K) (b := 3) (by omega) (by omega) c176)) (fun c176 => ?_)
    refine go_aload_n (q := 180) (gDec iX11_readContour_ok 98 rfl) rfl rfl rfl ?_
    refine go_getr (r' := 389) (q := 183) fX11_51 (gDec iX11_readContour_ok 99 rfl) rfl (by decide) rfl ?_
    refine go_aload_n (q := 184) (gDec iX11_readContour_ok 100 rfl) rfl rfl rfl ?_
    refine go_geti (q := 187) fX11_267 (gDec iX11_readContour_ok 101 rfl) rfl (by decide) rfl ?_
    refine go_top (v' := nI K) (rfl) ?_
    refine go_iload_n (q := 188) (gDec iX11_readContour_ok 102 rfl) rfl rfl rfl ?_
    refine go_bipush (v := 12) (q := 190) (gDec iX11_readContour_ok 103 rfl) (by decide) rfl ?_
    refine go_min (q := 193) kX11_111 (gDec iX11_readContour_ok 104 rfl) (Nat.le_of_ble_eq_true rfl) (gFit_rm (by decide) (by decide)) rfl ?_
    refine go_top (v' := rM q) (rfl) ?_
    refine go_iastN (q := 194) (gDec iX11_readContour_ok 105 rfl) rfl (by decide) (by omega) (by decide) rfl ?_
    refine go_w (show _ = (wr σ (wP (σ.1 380) n 41 p w) (wW (σ.1 380) n 41 p w) b K rd (upd rm K (rM q))) from wr_rm _ _) ?_
    refine go_aload_n (q := 195) (gDec iX11_readContour_ok 106 rfl) rfl rfl rfl ?_
    refine go_dup (q := 196) (gDec iX11_readContour_ok 107 rfl) rfl rfl ?_
    refine go_geti (q := 199) fX11_267 (gDec iX11_readContour_ok 108 rfl) rfl (by decide) rfl ?_
    refine go_top (v' := nI K) (rfl) ?_
    refine go_iconst (v := nI 1) (q := 200) (gDec iX11_readContour_ok 109 rfl) (by decide) rfl ?_
    refine go_iaddN (c := K + 1) (q := 201) (gDec iX11_readContour_ok 110 rfl) rfl rfl ?_
    refine go_puti (q := 204) fX11_267 gft11 (gDec iX11_readContour_ok 111 rfl) rfl (by decide) rfl rfl rfl rfl ?_
    refine go_w (show _ = (wr σ (wP (σ.1 380) n 41 p w) (wW (σ.1 380) n 41 p w) b (K + 1) rd (upd rm K (rM q))) from wr_K (K + 1)) ?_
    exact go_return (gDec iX11_readContour_ok 112 rfl) rfl rfl rfl (by decide)
  · rw [show rmU K q rm = rm from if_neg h1]
    refine go_aload_n (q := 166) (gDec iX11_readContour_ok 91 rfl) rfl rfl rfl ?_
    refine go_bipush (v := 41) (q := 168) (gDec iX11_readContour_ok 92 rfl) (by decide) rfl ?_
    refine go_callV (n2 := 0) (q := 171) kX11_261 (ctX11_wants (c := 41) h7 h60 hp) (gDec iX11_readContour_ok 93 rfl) rfl rfl (by decide) rfl rfl rfl (Nat.le_of_ble_eq_true rfl) rfl (gFit_rm (by decide) (by decide)) rfl ?_
    refine go_aload_n (q := 172) (gDec iX11_readContour_ok 94 rfl) rfl rfl rfl ?_
    refine go_geti (q := 175) fX11_267 (gDec iX11_readContour_ok 95 rfl) rfl (by decide) rfl ?_
    refine go_top (v' := nI K) (rfl) ?_
    refine go_iconst (v := nI 3) (q := 176) (gDec iX11_readContour_ok 96 rfl) (by decide) rfl ?_
    refine go_icmp_ge (t := 194) (q := 179) (gDec iX11_readContour_ok 97 rfl) (by decide) rfl (fun c176 => ?_) (fun c176 => False.elim (c176 (nI_le (by omega) (by omega))))
    refine go_aload_n (q := 195) (gDec iX11_readContour_ok 106 rfl) rfl rfl rfl ?_
    refine go_dup (q := 196) (gDec iX11_readContour_ok 107 rfl) rfl rfl ?_
    refine go_geti (q := 199) fX11_267 (gDec iX11_readContour_ok 108 rfl) rfl (by decide) rfl ?_
    refine go_top (v' := nI K) (rfl) ?_
    refine go_iconst (v := nI 1) (q := 200) (gDec iX11_readContour_ok 109 rfl) (by decide) rfl ?_
    refine go_iaddN (c := K + 1) (q := 201) (gDec iX11_readContour_ok 110 rfl) rfl rfl ?_
    refine go_puti (q := 204) fX11_267 gft11 (gDec iX11_readContour_ok 111 rfl) rfl (by decide) rfl rfl rfl rfl ?_
    refine go_w (show _ = (wr σ (wP (σ.1 380) n 41 p w) (wW (σ.1 380) n 41 p w) b (K + 1) rd rm) from wr_K (K + 1)) ?_
    exact go_return (gDec iX11_readContour_ok 112 rfl) rfl rfl rfl (by decide)

set_option maxHeartbeats 4000000 in
set_option maxRecDepth 100000 in
theorem ctX11_readContour {κ : gK} {σ : gST} {p n : Nat} {b : Bool} {K : Nat} {rd rm : Nat → Int32} (h7 : σ.1 376 7 = nI n) (h60 : n ≤ 60) (hp : p ≤ n) (hK : K < 1000) : gCt κ mX11_readContour 4 [.ref (κ.2.1 + 376)] (wr σ p false b K rd rm) (.inl none) (wr σ (rEp (σ.1 380) n K p b rd) (rEw (σ.1 380) n K p b rd) (rRes (σ.1 380) n K p b rd).2.2.2.1 (K + 1) (rRes (σ.1 380) n K p b rd).2.2.2.2 (rmU K (rRes (σ.1 380) n K p b rd).1 rm)) 0 := by
  refine ct_of (by decide +kernel) rfl (Nat.le_of_ble_eq_true rfl) rfl ?_
  unfold rEp rEw
  cases e2 : wW (σ.1 380) n 40 p false with
  | true =>
    have e1 : wP (σ.1 380) n 40 p false = p := by
      unfold wW at e2
      unfold wP
      by_cases h3 : false = true ∨ ¬ hr (σ.1 380) n p = 40
      · exact if_pos h3
      · rw [if_neg h3] at e2; cases e2
    rw [show (rRes (σ.1 380) n K p b rd) = (0, p, true, b, rd) from if_pos e2]
    refine go_aload_n (q := 1) (gDec iX11_readContour_ok 0 rfl) rfl rfl rfl ?_
    refine go_bipush (v := 40) (q := 3) (gDec iX11_readContour_ok 1 rfl) (by decide) rfl ?_
    refine go_callV (n2 := 0) (q := 6) kX11_261 (ctX11_wants (w := false) (c := 40) h7 h60 hp) (gDec iX11_readContour_ok 2 rfl) rfl rfl (by decide) rfl rfl rfl (Nat.le_of_ble_eq_true rfl) rfl (gFit_rm (by decide) (by decide)) rfl ?_
    refine go_w (show _ = (wr σ p true b K rd rm) from by rw [e1, e2]) ?_
    refine go_iconst (v := nI 0) (q := 7) (gDec iX11_readContour_ok 3 rfl) (by decide) rfl ?_
    refine go_istore_n (q := 8) (gDec iX11_readContour_ok 4 rfl) rfl (by decide) rfl ?_
    refine go_iconst (v := nI 1) (q := 9) (gDec iX11_readContour_ok 5 rfl) (by decide) rfl ?_
    refine go_istore_n (q := 10) (gDec iX11_readContour_ok 6 rfl) rfl (by decide) rfl ?_
    refine go_iload_n (q := 11) (gDec iX11_readContour_ok 7 rfl) rfl rfl rfl ?_
    refine go_if_eq (t := 165) (q := 14) (gDec iX11_readContour_ok 8 rfl) (by decide) rfl (fun c11 => False.elim (absurd c11 (by decide))) (fun c11 => ?_)
    refine go_aload_n (q := 15) (gDec iX11_readContour_ok 9 rfl) rfl rfl rfl ?_
    refine go_geti (q := 18) fX11_247 (gDec iX11_readContour_ok 10 rfl) rfl (by decide) rfl ?_
    refine go_top (v' := 1) (rfl) ?_
    refine go_if_ne (t := 165) (q := 21) (gDec iX11_readContour_ok 11 rfl) (by decide) rfl (fun c18 => ?_) (fun c18 => False.elim (absurd c18 (by decide)))
    refine go_sub (L' := [(0, .ref (κ.2.1 + 376)), (1, .int (nI 0))]) ⟨rfl, rfl, trivial⟩ ?_
    exact lpX11_rcZ (q := 0) (w := true) h7 h60 hp hK
  | false =>
    have e3 : ¬ (false = true ∨ ¬ hr (σ.1 380) n p = 40) := fun h3 => by
      unfold wW at e2
      rw [if_pos h3] at e2; cases e2
    have e1 : wP (σ.1 380) n 40 p false = p + 1 := if_neg e3
    have hp1 : p + 1 ≤ n := hr_lt (c := 40) (Classical.not_not.mp (fun h9 => e3 (Or.inr h9))) (by decide)
    rw [show (rRes (σ.1 380) n K p b rd) = rLp (σ.1 380) n K 61 0 (p + 1) b rd from if_neg (fun h9 => by rw [e2] at h9; cases h9)]
    refine go_aload_n (q := 1) (gDec iX11_readContour_ok 0 rfl) rfl rfl rfl ?_
    refine go_bipush (v := 40) (q := 3) (gDec iX11_readContour_ok 1 rfl) (by decide) rfl ?_
    refine go_callV (n2 := 0) (q := 6) kX11_261 (ctX11_wants (w := false) (c := 40) h7 h60 hp) (gDec iX11_readContour_ok 2 rfl) rfl rfl (by decide) rfl rfl rfl (Nat.le_of_ble_eq_true rfl) rfl (gFit_rm (by decide) (by decide)) rfl ?_
    refine go_w (show _ = (wr σ (p + 1) false b K rd rm) from by rw [e1, e2]) ?_
    refine go_iconst (v := nI 0) (q := 7) (gDec iX11_readContour_ok 3 rfl) (by decide) rfl ?_
    refine go_istore_n (q := 8) (gDec iX11_readContour_ok 4 rfl) rfl (by decide) rfl ?_
    refine go_iconst (v := nI 1) (q := 9) (gDec iX11_readContour_ok 5 rfl) (by decide) rfl ?_
    refine go_istore_n (q := 10) (gDec iX11_readContour_ok 6 rfl) rfl (by decide) rfl ?_
    refine go_sub (L' := [(0, .ref (κ.2.1 + 376)), (1, .int (nI 0)), (2, .int 1)]) ⟨rfl, rfl, rfl, trivial⟩ ?_
    refine lpX11_rcL h7 h60 hK 61 0 (p + 1) b rd (by omega) hp1 (by omega) ?_
    exact lpX11_rcZ (q := (rLp (σ.1 380) n K 61 0 (p + 1) b rd).1) (p := (rLp (σ.1 380) n K 61 0 (p + 1) b rd).2.1) (w := (rLp (σ.1 380) n K 61 0 (p + 1) b rd).2.2.1) h7 h60 (rLp_le 61 0 (p + 1) b rd hp1).2 hK
