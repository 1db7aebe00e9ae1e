def fF (q K : Nat) : Bool := if q < 12 ∧ K < 3 then true else false
def bF (q K : Nat) (b w : Bool) : Bool := if b = true ∨ (fF q K = false ∧ w = false) then true else false
def rD (q K : Nat) (x y : Int32) (rd : Nat → Int32) : Nat → Int32 := if fF q K = true then upd (upd rd (2 * (12 * K + q)) x) (2 * (12 * K + q) + 1) y else rd
def mF (t : Nat → Int32) (n q p : Nat) : Bool := if q + 1 < 3 ∨ ¬ hr t n p = 41 then true else false
/-- a point read -/
def rS1 (t : Nat → Int32) (n q p : Nat) : Nat × Bool := if 0 < q then (wP t n 32 p false, wW t n 32 p false) else (p, false)
def rPx (t : Nat → Int32) (n q p : Nat) : Int32 := cV t n (rS1 t n q p).1 (rS1 t n q p).2
def rP2 (t : Nat → Int32) (n q p : Nat) : Nat := cP t n (rS1 t n q p).1 (rS1 t n q p).2
def rW2 (t : Nat → Int32) (n q p : Nat) : Bool := cW1 t n (rS1 t n q p).1 (rS1 t n q p).2
def rB2 (t : Nat → Int32) (n q p : Nat) (b : Bool) : Bool := cB t n (rS1 t n q p).1 (rS1 t n q p).2 b
def rP3 (t : Nat → Int32) (n q p : Nat) : Nat := wP t n 44 (rP2 t n q p) (rW2 t n q p)
def rW3 (t : Nat → Int32) (n q p : Nat) : Bool := wW t n 44 (rP2 t n q p) (rW2 t n q p)
def rPy (t : Nat → Int32) (n q p : Nat) : Int32 := cV t n (rP3 t n q p) (rW3 t n q p)
def rP4 (t : Nat → Int32) (n q p : Nat) : Nat := cP t n (rP3 t n q p) (rW3 t n q p)
def rW4 (t : Nat → Int32) (n q p : Nat) : Bool := cW1 t n (rP3 t n q p) (rW3 t n q p)
def rB4 (t : Nat → Int32) (n q p : Nat) (b : Bool) : Bool := cB t n (rP3 t n q p) (rW3 t n q p) (rB2 t n q p b)
/-- the points of a contour -/
def rLp (t : Nat → Int32) (n K : Nat) : Nat → Nat → Nat → Bool → (Nat → Int32) → Nat × Nat × Bool × Bool × (Nat → Int32)
  | 0, q, p, b, rd => (q, p, false, b, rd)
  | f + 1, q, p, b, rd => if rW4 t n q p = false ∧ mF t n q (rP4 t n q p) = true then rLp t n K f (q + 1) (rP4 t n q p) (bF q K (rB4 t n q p b) (rW4 t n q p)) (rD q K (rPx t n q p) (rPy t n q p) rd)
    else (q + 1, rP4 t n q p, rW4 t n q p, bF q K (rB4 t n q p b) (rW4 t n q p), rD q K (rPx t n q p) (rPy t n q p) rd)
theorem rS1_le {t : Nat → Int32} {n q p : Nat} (h : p ≤ n) : p ≤ (rS1 t n q p).1 ∧ (rS1 t n q p).1 ≤ n := by
  unfold rS1
  split
  · refine ⟨?_, wP_le h (by decide)⟩
    show p ≤ wP t n 32 p false
    unfold wP
    split <;> omega
  · exact ⟨Nat.le_refl _, h⟩
theorem rP2_le {t : Nat → Int32} {n q p : Nat} (h : p ≤ n) : p ≤ rP2 t n q p ∧ rP2 t n q p ≤ n := by
  have h1 := rS1_le (t := t) (q := q) h
  have h2 := cP_le (t := t) (w := (rS1 t n q p).2) h1.2
  exact ⟨by unfold rP2; omega, h2.2⟩
theorem rP3_le {t : Nat → Int32} {n q p : Nat} (h : p ≤ n) : p ≤ rP3 t n q p ∧ rP3 t n q p ≤ n ∧ (rW3 t n q p = false → p + 1 ≤ rP3 t n q p) := by
  have h1 := rP2_le (t := t) (q := q) h
  refine ⟨?_, wP_le h1.2 (by decide), fun h9 => ?_⟩
  · unfold rP3 wP
    split <;> omega
  · unfold rP3 wP
    unfold rW3 wW at h9
    split
    · rename_i h8
      rw [if_pos h8] at h9; cases h9
    · omega
theorem cW1_w {t : Nat → Int32} {n p : Nat} {w : Bool} (h : cW1 t n p w = false) : w = false := by
  cases w with
  | false => rfl
  | true =>
    have : cW1 t n p true = true := if_pos (Or.inl rfl)
    rw [this] at h; cases h
theorem rP4_le {t : Nat → Int32} {n q p : Nat} (h : p ≤ n) : p ≤ rP4 t n q p ∧ rP4 t n q p ≤ n ∧ (rW4 t n q p = false → p + 1 ≤ rP4 t n q p) := by
  obtain ⟨h1, h2, h3⟩ := rP3_le (t := t) (q := q) h
  have h4 := cP_le (t := t) (w := rW3 t n q p) h2
  exact ⟨by unfold rP4; omega, h4.2, fun h9 => by have := h3 (cW1_w h9); unfold rP4; omega⟩

set_option maxHeartbeats 4000000 in
set_option maxRecDepth 100000 in
theorem lpX11_rcC {κ : gK} {Z : gZ} {σ : gST} {q p n : Nat} {w b : Bool} {K : Nat} {rd rm : Nat → Int32} {x y : Int32} (hq : q < 1000) (hK : K < 1000) (h : Go κ mX11_readContour (gRm 4 0) Z 97 [(0, .ref (κ.2.1 + 376)), (1, .int (nI q)), (3, .int x), (4, .int y), (5, .int (o1 (fF q K)))] [] (wr σ p w (bF q K b w) K rd rm) 0) : Go κ mX11_readContour (gRm 4 0) Z 48 [(0, .ref (κ.2.1 + 376)), (1, .int (nI q)), (3, .int x), (4, .int y)] [] (wr σ p w b K rd rm) 0 := by
  by_cases h1 : q < 12
  · by_cases h2 : K < 3
    · have e : fF q K = true := if_pos ⟨h1, h2⟩
      cases b with
      | true =>
        rw [show bF q K true w = true from if_pos (Or.inl rfl), e] at h
        cases w with
        | true =>
          refine go_iload_n (q := 49) (gDec iX11_readContour_ok 26 rfl) rfl rfl rfl ?_
          refine go_bipush (v := nI 12) (q := 51) (gDec iX11_readContour_ok 27 rfl) (by decide) rfl ?_
          refine go_icmp_ge (t := 66) (q := 54) (gDec iX11_readContour_ok 28 rfl) (by decide) rfl (fun c51 => False.elim (nI_ge (a := q) (b := 12) (by omega) (by omega) c51)) (fun c51 => ?_)
          refine go_aload_n (q := 55) (gDec iX11_readContour_ok 29 rfl) rfl rfl rfl ?_
          refine go_geti (q := 58) fX11_267 (gDec iX11_readContour_ok 30 rfl) rfl (by decide) rfl ?_
          refine go_top (v' := nI K) (rfl) ?_
          refine go_iconst (v := nI 3) (q := 59) (gDec iX11_readContour_ok 31 rfl) (by decide) rfl ?_
          refine go_icmp_ge (t := 66) (q := 62) (gDec iX11_readContour_ok 32 rfl) (by decide) rfl (fun c59 => False.elim (nI_ge (a := K) (b := 3) (by omega) (by omega) c59)) (fun c59 => ?_)
          refine go_iconst (v := nI 1) (q := 63) (gDec iX11_readContour_ok 33 rfl) (by decide) rfl ?_
          refine go_goto (t := 67) (gDec iX11_readContour_ok 34 rfl) (by decide) ?_
          refine go_istore (q := 69) (gDec iX11_readContour_ok 36 rfl) (by decide) rfl ?_
          refine go_aload_n (q := 70) (gDec iX11_readContour_ok 37 rfl) rfl rfl rfl ?_
          refine go_aload_n (q := 71) (gDec iX11_readContour_ok 38 rfl) rfl rfl rfl ?_
          refine go_geti (q := 74) fX11_258 (gDec iX11_readContour_ok 39 rfl) rfl (by decide) rfl ?_
          refine go_top (v' := 1) (rfl) ?_
          refine go_if_ne (t := 89) (q := 77) (gDec iX11_readContour_ok 40 rfl) (by decide) rfl (fun c74 => ?_) (fun c74 => False.elim (absurd c74 (by decide)))
          refine go_iconst (v := nI 1) (q := 90) (gDec iX11_readContour_ok 46 rfl) (by decide) rfl ?_
          refine go_goto (t := 94) (gDec iX11_readContour_ok 47 rfl) (by decide) ?_
          refine go_puti (q := 97) fX11_258 gft11 (gDec iX11_readContour_ok 49 rfl) rfl (by decide) rfl rfl rfl rfl ?_
          refine go_sub (L' := [(0, .ref (κ.2.1 + 376)), (1, .int (nI q)), (3, .int x), (4, .int y), (5, .int (o1 true))]) ⟨rfl, rfl, rfl, rfl, rfl, trivial⟩ ?_
          exact h
        | false =>
          refine go_iload_n (q := 49) (gDec iX11_readContour_ok 26 rfl) rfl rfl rfl ?_
          refine go_bipush (v := nI 12) (q := 51) (gDec iX11_readContour_ok 27 rfl) (by decide) rfl ?_
          refine go_icmp_ge (t := 66) (q := 54) (gDec iX11_readContour_ok 28 rfl) (by decide) rfl (fun c51 => False.elim (nI_ge (a := q) (b := 12) (by omega) (by omega) c51)) (fun c51 => ?_)
          refine go_aload_n (q := 55) (gDec iX11_readContour_ok 29 rfl) rfl rfl rfl ?_
          refine go_geti (q := 58) fX11_267 (gDec iX11_readContour_ok 30 rfl) rfl (by decide) rfl ?_
          refine go_top (v' := nI K) (rfl) ?_
          refine go_iconst (v := nI 3) (q := 59) (gDec iX11_readContour_ok 31 rfl) (by decide) rfl ?_
          refine go_icmp_ge (t := 66) (q := 62) (gDec iX11_readContour_ok 32 rfl) (by decide) rfl (fun c59 => False.elim (nI_ge (a := K) (b := 3) (by omega) (by omega) c59)) (fun c59 => ?_)
          refine go_iconst (v := nI 1) (q := 63) (gDec iX11_readContour_ok 33 rfl) (by decide) rfl ?_
          refine go_goto (t := 67) (gDec iX11_readContour_ok 34 rfl) (by decide) ?_
          refine go_istore (q := 69) (gDec iX11_readContour_ok 36 rfl) (by decide) rfl ?_
          refine go_aload_n (q := 70) (gDec iX11_readContour_ok 37 rfl) rfl rfl rfl ?_
          refine go_aload_n (q := 71) (gDec iX11_readContour_ok 38 rfl) rfl rfl rfl ?_
          refine go_geti (q := 74) fX11_258 (gDec iX11_readContour_ok 39 rfl) rfl (by decide) rfl ?_
          refine go_top (v' := 1) (rfl) ?_
          refine go_if_ne (t := 89) (q := 77) (gDec iX11_readContour_ok 40 rfl) (by decide) rfl (fun c74 => ?_) (fun c74 => False.elim (absurd c74 (by decide)))
          refine go_iconst (v := nI 1) (q := 90) (gDec iX11_readContour_ok 46 rfl) (by decide) rfl ?_
          refine go_goto (t := 94) (gDec iX11_readContour_ok 47 rfl) (by decide) ?_
          refine go_puti (q := 97) fX11_258 gft11 (gDec iX11_readContour_ok 49 rfl) rfl (by decide) rfl rfl rfl rfl ?_
          refine go_sub (L' := [(0, .ref (κ.2.1 + 376)), (1, .int (nI q)), (3, .int x), (4, .int y), (5, .int (o1 true))]) ⟨rfl, rfl, rfl, rfl, rfl, trivial⟩ ?_
          exact h
      | false =>
        cases w with
        | true =>
          rw [show bF q K false true = false from if_neg (fun h9 => h9.elim (fun h8 => by cases h8) (fun h8 => by rw [e] at h8; cases h8.1)), e] at h
          refine go_iload_n (q := 49) (gDec iX11_readContour_ok 26 rfl) rfl rfl rfl ?_
          refine go_bipush (v := nI 12) (q := 51) (gDec iX11_readContour_ok 27 rfl) (by decide) rfl ?_
          refine go_icmp_ge (t := 66) (q := 54) (gDec iX11_readContour_ok 28 rfl) (by decide) rfl (fun c51 => False.elim (nI_ge (a := q) (b := 12) (by omega) (by omega) c51)) (fun c51 => ?_)
          refine go_aload_n (q := 55) (gDec iX11_readContour_ok 29 rfl) rfl rfl rfl ?_
          refine go_geti (q := 58) fX11_267 (gDec iX11_readContour_ok 30 rfl) rfl (by decide) rfl ?_
          refine go_top (v' := nI K) (rfl) ?_
          refine go_iconst (v := nI 3) (q := 59) (gDec iX11_readContour_ok 31 rfl) (by decide) rfl ?_
          refine go_icmp_ge (t := 66) (q := 62) (gDec iX11_readContour_ok 32 rfl) (by decide) rfl (fun c59 => False.elim (nI_ge (a := K) (b := 3) (by omega) (by omega) c59)) (fun c59 => ?_)
          refine go_iconst (v := nI 1) (q := 63) (gDec iX11_readContour_ok 33 rfl) (by decide) rfl ?_
          refine go_goto (t := 67) (gDec iX11_readContour_ok 34 rfl) (by decide) ?_
          refine go_istore (q := 69) (gDec iX11_readContour_ok 36 rfl) (by decide) rfl ?_
          refine go_aload_n (q := 70) (gDec iX11_readContour_ok 37 rfl) rfl rfl rfl ?_
          refine go_aload_n (q := 71) (gDec iX11_readContour_ok 38 rfl) rfl rfl rfl ?_
          refine go_geti (q := 74) fX11_258 (gDec iX11_readContour_ok 39 rfl) rfl (by decide) rfl ?_
          refine go_top (v' := 0) (rfl) ?_
          refine go_if_ne (t := 89) (q := 77) (gDec iX11_readContour_ok 40 rfl) (by decide) rfl (fun c74 => False.elim (c74 rfl)) (fun c74 => ?_)
          refine go_iload (q := 79) (gDec iX11_readContour_ok 41 rfl) rfl rfl ?_
          refine go_if_ne (t := 93) (q := 82) (gDec iX11_readContour_ok 42 rfl) (by decide) rfl (fun c79 => ?_) (fun c79 => False.elim (absurd c79 (by decide)))
          refine go_iconst (v := nI 0) (q := 94) (gDec iX11_readContour_ok 48 rfl) (by decide) rfl ?_
          refine go_puti (q := 97) fX11_258 gft11 (gDec iX11_readContour_ok 49 rfl) rfl (by decide) rfl rfl rfl rfl ?_
          refine go_sub (L' := [(0, .ref (κ.2.1 + 376)), (1, .int (nI q)), (3, .int x), (4, .int y), (5, .int (o1 true))]) ⟨rfl, rfl, rfl, rfl, rfl, trivial⟩ ?_
          exact h
        | false =>
          rw [show bF q K false false = false from if_neg (fun h9 => h9.elim (fun h8 => by cases h8) (fun h8 => by rw [e] at h8; cases h8.1)), e] at h
          refine go_iload_n (q := 49) (gDec iX11_readContour_ok 26 rfl) rfl rfl rfl ?_
          refine go_bipush (v := nI 12) (q := 51) (gDec iX11_readContour_ok 27 rfl) (by decide) rfl ?_
          refine go_icmp_ge (t := 66) (q := 54) (gDec iX11_readContour_ok 28 rfl) (by decide) rfl (fun c51 => False.elim (nI_ge (a := q) (b := 12) (by omega) (by omega) c51)) (fun c51 => ?_)
          refine go_aload_n (q := 55) (gDec iX11_readContour_ok 29 rfl) rfl rfl rfl ?_
          refine go_geti (q := 58) fX11_267 (gDec iX11_readContour_ok 30 rfl) rfl (by decide) rfl ?_
          refine go_top (v' := nI K) (rfl) ?_
          refine go_iconst (v := nI 3) (q := 59) (gDec iX11_readContour_ok 31 rfl) (by decide) rfl ?_
          refine go_icmp_ge (t := 66) (q := 62) (gDec iX11_readContour_ok 32 rfl) (by decide) rfl (fun c59 => False.elim (nI_ge (a := K) (b := 3) (by omega) (by omega) c59)) (fun c59 => ?_)
          refine go_iconst (v := nI 1) (q := 63) (gDec iX11_readContour_ok 33 rfl) (by decide) rfl ?_
          refine go_goto (t := 67) (gDec iX11_readContour_ok 34 rfl) (by decide) ?_
          refine go_istore (q := 69) (gDec iX11_readContour_ok 36 rfl) (by decide) rfl ?_
          refine go_aload_n (q := 70) (gDec iX11_readContour_ok 37 rfl) rfl rfl rfl ?_
          refine go_aload_n (q := 71) (gDec iX11_readContour_ok 38 rfl) rfl rfl rfl ?_
          refine go_geti (q := 74) fX11_258 (gDec iX11_readContour_ok 39 rfl) rfl (by decide) rfl ?_
          refine go_top (v' := 0) (rfl) ?_
          refine go_if_ne (t := 89) (q := 77) (gDec iX11_readContour_ok 40 rfl) (by decide) rfl (fun c74 => False.elim (c74 rfl)) (fun c74 => ?_)
          refine go_iload (q := 79) (gDec iX11_readContour_ok 41 rfl) rfl rfl ?_
          refine go_if_ne (t := 93) (q := 82) (gDec iX11_readContour_ok 42 rfl) (by decide) rfl (fun c79 => ?_) (fun c79 => False.elim (absurd c79 (by decide)))
          refine go_iconst (v := nI 0) (q := 94) (gDec iX11_readContour_ok 48 rfl) (by decide) rfl ?_
          refine go_puti (q := 97) fX11_258 gft11 (gDec iX11_readContour_ok 49 rfl) rfl (by decide) rfl rfl rfl rfl ?_
          refine go_sub (L' := [(0, .ref (κ.2.1 + 376)), (1, .int (nI q)), (3, .int x), (4, .int y), (5, .int (o1 true))]) ⟨rfl, rfl, rfl, rfl, rfl, trivial⟩ ?_
          exact h
    · have e : fF q K = false := if_neg (fun h9 => h2 h9.2)
      cases b with
      | true =>
        rw [show bF q K true w = true from if_pos (Or.inl rfl), e] at h
        cases w with
        | true =>
          refine go_iload_n (q := 49) (gDec iX11_readContour_ok 26 rfl) rfl rfl rfl ?_
          refine go_bipush (v := nI 12) (q := 51) (gDec iX11_readContour_ok 27 rfl) (by decide) rfl ?_
          refine go_icmp_ge (t := 66) (q := 54) (gDec iX11_readContour_ok 28 rfl) (by decide) rfl (fun c51 => False.elim (nI_ge (a := q) (b := 12) (by omega) (by omega) c51)) (fun c51 => ?_)
          refine go_aload_n (q := 55) (gDec iX11_readContour_ok 29 rfl) rfl rfl rfl ?_
          refine go_geti (q := 58) fX11_267 (gDec iX11_readContour_ok 30 rfl) rfl (by decide) rfl ?_
          refine go_top (v' := nI K) (rfl) ?_
          refine go_iconst (v := nI 3) (q := 59) (gDec iX11_readContour_ok 31 rfl) (by decide) rfl ?_
          refine go_icmp_ge (t := 66) (q := 62) (gDec iX11_readContour_ok 32 rfl) (by decide) rfl (fun c59 => ?_) (fun c59 => False.elim (c59 (nI_le (by omega) (by omega))))
          refine go_iconst (v := nI 0) (q := 67) (gDec iX11_readContour_ok 35 rfl) (by decide) rfl ?_
          refine go_istore (q := 69) (gDec iX11_readContour_ok 36 rfl) (by decide) rfl ?_
          refine go_aload_n (q := 70) (gDec iX11_readContour_ok 37 rfl) rfl rfl rfl ?_
          refine go_aload_n (q := 71) (gDec iX11_readContour_ok 38 rfl) rfl rfl rfl ?_
          refine go_geti (q := 74) fX11_258 (gDec iX11_readContour_ok 39 rfl) rfl (by decide) rfl ?_
          refine go_top (v' := 1) (rfl) ?_
          refine go_if_ne (t := 89) (q := 77) (gDec iX11_readContour_ok 40 rfl) (by decide) rfl (fun c74 => ?_) (fun c74 => False.elim (absurd c74 (by decide)))
          refine go_iconst (v := nI 1) (q := 90) (gDec iX11_readContour_ok 46 rfl) (by decide) rfl ?_
          refine go_goto (t := 94) (gDec iX11_readContour_ok 47 rfl) (by decide) ?_
          refine go_puti (q := 97) fX11_258 gft11 (gDec iX11_readContour_ok 49 rfl) rfl (by decide) rfl rfl rfl rfl ?_
          refine go_sub (L' := [(0, .ref (κ.2.1 + 376)), (1, .int (nI q)), (3, .int x), (4, .int y), (5, .int (o1 false))]) ⟨rfl, rfl, rfl, rfl, rfl, trivial⟩ ?_
          exact h
        | false =>
          refine go_iload_n (q := 49) (gDec iX11_readContour_ok 26 rfl) rfl rfl rfl ?_
          refine go_bipush (v := nI 12) (q := 51) (gDec iX11_readContour_ok 27 rfl) (by decide) rfl ?_
          refine go_icmp_ge (t := 66) (q := 54) (gDec iX11_readContour_ok 28 rfl) (by decide) rfl (fun c51 => False.elim (nI_ge (a := q) (b := 12) (by omega) (by omega) c51)) (fun c51 => ?_)
          refine go_aload_n (q := 55) (gDec iX11_readContour_ok 29 rfl) rfl rfl rfl ?_
          refine go_geti (q := 58) fX11_267 (gDec iX11_readContour_ok 30 rfl) rfl (by decide) rfl ?_
          refine go_top (v' := nI K) (rfl) ?_
          refine go_iconst (v := nI 3) (q := 59) (gDec iX11_readContour_ok 31 rfl) (by decide) rfl ?_
          refine go_icmp_ge (t := 66) (q := 62) (gDec iX11_readContour_ok 32 rfl) (by decide) rfl (fun c59 => ?_) (fun c59 => False.elim (c59 (nI_le (by omega) (by omega))))
          refine go_iconst (v := nI 0) (q := 67) (gDec iX11_readContour_ok 35 rfl) (by decide) rfl ?_
          refine go_istore (q := 69) (gDec iX11_readContour_ok 36 rfl) (by decide) rfl ?_
          refine go_aload_n (q := 70) (gDec iX11_readContour_ok 37 rfl) rfl rfl rfl ?_
          refine go_aload_n (q := 71) (gDec iX11_readContour_ok 38 rfl) rfl rfl rfl ?_
          refine go_geti (q := 74) fX11_258 (gDec iX11_readContour_ok 39 rfl) rfl (by decide) rfl ?_
          refine go_top (v' := 1) (rfl) ?_
          refine go_if_ne (t := 89) (q := 77) (gDec iX11_readContour_ok 40 rfl) (by decide) rfl (fun c74 => ?_) (fun c74 => False.elim (absurd c74 (by decide)))
          refine go_iconst (v := nI 1) (q := 90) (gDec iX11_readContour_ok 46 rfl) (by decide) rfl ?_
          refine go_goto (t := 94) (gDec iX11_readContour_ok 47 rfl) (by decide) ?_
          refine go_puti (q := 97) fX11_258 gft11 (gDec iX11_readContour_ok 49 rfl) rfl (by decide) rfl rfl rfl rfl ?_
          refine go_sub (L' := [(0, .ref (κ.2.1 + 376)), (1, .int (nI q)), (3, .int x), (4, .int y), (5, .int (o1 false))]) ⟨rfl, rfl, rfl, rfl, rfl, trivial⟩ ?_
          exact h
      | false =>
        cases w with
        | true =>
          rw [show bF q K false true = false from if_neg (fun h9 => h9.elim (fun h8 => by cases h8) (fun h8 => by cases h8.2)), e] at h
          refine go_iload_n (q := 49) (gDec iX11_readContour_ok 26 rfl) rfl rfl rfl ?_
          refine go_bipush (v := nI 12) (q := 51) (gDec iX11_readContour_ok 27 rfl) (by decide) rfl ?_
          refine go_icmp_ge (t := 66) (q := 54) (gDec iX11_readContour_ok 28 rfl) (by decide) rfl (fun c51 => False.elim (nI_ge (a := q) (b := 12) (by omega) (by omega) c51)) (fun c51 => ?_)
          refine go_aload_n (q := 55) (gDec iX11_readContour_ok 29 rfl) rfl rfl rfl ?_
          refine go_geti (q := 58) fX11_267 (gDec iX11_readContour_ok 30 rfl) rfl (by decide) rfl ?_
          refine go_top (v' := nI K) (rfl) ?_
          refine go_iconst (v := nI 3) (q := 59) (gDec iX11_readContour_ok 31 rfl) (by decide) rfl ?_
          refine go_icmp_ge (t := 66) (q := 62) (gDec iX11_readContour_ok 32 rfl) (by decide) rfl (fun c59 => ?_) (fun c59 => False.elim (c59 (nI_le (by omega) (by omega))))
          refine go_iconst (v := nI 0) (q := 67) (gDec iX11_readContour_ok 35 rfl) (by decide) rfl ?_
          refine go_istore (q := 69) (gDec iX11_readContour_ok 36 rfl) (by decide) rfl ?_
          refine go_aload_n (q := 70) (gDec iX11_readContour_ok 37 rfl) rfl rfl rfl ?_
          refine go_aload_n (q := 71) (gDec iX11_readContour_ok 38 rfl) rfl rfl rfl ?_
          refine go_geti (q := 74) fX11_258 (gDec iX11_readContour_ok 39 rfl) rfl (by decide) rfl ?_
          refine go_top (v' := 0) (rfl) ?_
          refine go_if_ne (t := 89) (q := 77) (gDec iX11_readContour_ok 40 rfl) (by decide) rfl (fun c74 => False.elim (c74 rfl)) (fun c74 => ?_)
          refine go_iload (q := 79) (gDec iX11_readContour_ok 41 rfl) rfl rfl ?_
          refine go_if_ne (t := 93) (q := 82) (gDec iX11_readContour_ok 42 rfl) (by decide) rfl (fun c79 => False.elim (c79 rfl)) (fun c79 => ?_)
          refine go_aload_n (q := 83) (gDec iX11_readContour_ok 43 rfl) rfl rfl rfl ?_
          refine go_geti (q := 86) fX11_247 (gDec iX11_readContour_ok 44 rfl) rfl (by decide) rfl ?_
          refine go_top (v' := 1) (rfl) ?_
          refine go_if_ne (t := 93) (q := 89) (gDec iX11_readContour_ok 45 rfl) (by decide) rfl (fun c86 => ?_) (fun c86 => False.elim (absurd c86 (by decide)))
          refine go_iconst (v := nI 0) (q := 94) (gDec iX11_readContour_ok 48 rfl) (by decide) rfl ?_
          refine go_puti (q := 97) fX11_258 gft11 (gDec iX11_readContour_ok 49 rfl) rfl (by decide) rfl rfl rfl rfl ?_
          refine go_sub (L' := [(0, .ref (κ.2.1 + 376)), (1, .int (nI q)), (3, .int x), (4, .int y), (5, .int (o1 false))]) ⟨rfl, rfl, rfl, rfl, rfl, trivial⟩ ?_
          exact h
        | false =>
          rw [show bF q K false false = true from if_pos (Or.inr ⟨e, rfl⟩), e] at h
          refine go_iload_n (q := 49) (gDec iX11_readContour_ok 26 rfl) rfl rfl rfl ?_
          refine go_bipush (v := nI 12) (q := 51) (gDec iX11_readContour_ok 27 rfl) (by decide) rfl ?_
          refine go_icmp_ge (t := 66) (q := 54) (gDec iX11_readContour_ok 28 rfl) (by decide) rfl (fun c51 => False.elim (nI_ge (a := q) (b := 12) (by omega) (by omega) c51)) (fun c51 => ?_)
          refine go_aload_n (q := 55) (gDec iX11_readContour_ok 29 rfl) rfl rfl rfl ?_
          refine go_geti (q := 58) fX11_267 (gDec iX11_readContour_ok 30 rfl) rfl (by decide) rfl ?_
          refine go_top (v' := nI K) (rfl) ?_
          refine go_iconst (v := nI 3) (q := 59) (gDec iX11_readContour_ok 31 rfl) (by decide) rfl ?_
          refine go_icmp_ge (t := 66) (q := 62) (gDec iX11_readContour_ok 32 rfl) (by decide) rfl (fun c59 => ?_) (fun c59 => False.elim (c59 (nI_le (by omega) (by omega))))
          refine go_iconst (v := nI 0) (q := 67) (gDec iX11_readContour_ok 35 rfl) (by decide) rfl ?_
          refine go_istore (q := 69) (gDec iX11_readContour_ok 36 rfl) (by decide) rfl ?_
          refine go_aload_n (q := 70) (gDec iX11_readContour_ok 37 rfl) rfl rfl rfl ?_
          refine go_aload_n (q := 71) (gDec iX11_readContour_ok 38 rfl) rfl rfl rfl ?_
          refine go_geti (q := 74) fX11_258 (gDec iX11_readContour_ok 39 rfl) rfl (by decide) rfl ?_
          refine go_top (v' := 0) (rfl) ?_
          refine go_if_ne (t := 89) (q := 77) (gDec iX11_readContour_ok 40 rfl) (by decide) rfl (fun c74 => False.elim (c74 rfl)) (fun c74 => ?_)
          refine go_iload (q := 79) (gDec iX11_readContour_ok 41 rfl) rfl rfl ?_
          refine go_if_ne (t := 93) (q := 82) (gDec iX11_readContour_ok 42 rfl) (by decide) rfl (fun c79 => False.elim (c79 rfl)) (fun c79 => ?_)
          refine go_aload_n (q := 83) (gDec iX11_readContour_ok 43 rfl) rfl rfl rfl ?_
          refine go_geti (q := 86) fX11_247 (gDec iX11_readContour_ok 44 rfl) rfl (by decide) rfl ?_
          refine go_top (v' := 0) (rfl) ?_
          refine go_if_ne (t := 93) (q := 89) (gDec iX11_readContour_ok 45 rfl) (by decide) rfl (fun c86 => False.elim (c86 rfl)) (fun c86 => ?_)
          refine go_iconst (v := nI 1) (q := 90) (gDec iX11_readContour_ok 46 rfl) (by decide) rfl ?_
          refine go_goto (t := 94) (gDec iX11_readContour_ok 47 rfl) (by decide) ?_
          refine go_puti (q := 97) fX11_258 gft11 (gDec iX11_readContour_ok 49 rfl) rfl (by decide) rfl rfl rfl rfl ?_
          refine go_sub (L' := [(0, .ref (κ.2.1 + 376)), (1, .int (nI q)), (3, .int x), (4, .int y), (5, .int (o1 false))]) ⟨rfl, rfl, rfl, rfl, rfl, trivial⟩ ?_
          exact h
  · have e : fF q K = false := if_neg (fun h9 => h1 h9.1)
    cases b with
    | true =>
      rw [show bF q K true w = true from if_pos (Or.inl rfl), e] at h
      cases w with
      | true =>
        refine go_iload_n (q := 49) (gDec iX11_readContour_ok 26 rfl) rfl rfl rfl ?_
        refine go_bipush (v := nI 12) (q := 51) (gDec iX11_readContour_ok 27 rfl) (by decide) rfl ?_
        refine go_icmp_ge (t := 66) (q := 54) (gDec iX11_readContour_ok 28 rfl) (by decide) rfl (fun c51 => ?_) (fun c51 => False.elim (c51 (nI_le (by omega) (by omega))))
        refine go_iconst (v := nI 0) (q := 67) (gDec iX11_readContour_ok 35 rfl) (by decide) rfl ?_
        refine go_istore (q := 69) (gDec iX11_readContour_ok 36 rfl) (by decide) rfl ?_
        refine go_aload_n (q := 70) (gDec iX11_readContour_ok 37 rfl) rfl rfl rfl ?_
        refine go_aload_n (q := 71) (gDec iX11_readContour_ok 38 rfl) rfl rfl rfl ?_
        refine go_geti (q := 74) fX11_258 (gDec iX11_readContour_ok 39 rfl) rfl (by decide) rfl ?_
        refine go_top (v' := 1) (rfl) ?_
        refine go_if_ne (t := 89) (q := 77) (gDec iX11_readContour_ok 40 rfl) (by decide) rfl (fun c74 => ?_) (fun c74 => False.elim (absurd c74 (by decide)))
        refine go_iconst (v := nI 1) (q := 90) (gDec iX11_readContour_ok 46 rfl) (by decide) rfl ?_
        refine go_goto (t := 94) (gDec iX11_readContour_ok 47 rfl) (by decide) ?_
        refine go_puti (q := 97) fX11_258 gft11 (gDec iX11_readContour_ok 49 rfl) rfl (by decide) rfl rfl rfl rfl ?_
        refine go_sub (L' := [(0, .ref (κ.2.1 + 376)), (1, .int (nI q)), (3, .int x), (4, .int y), (5, .int (o1 false))]) ⟨rfl, rfl, rfl, rfl, rfl, trivial⟩ ?_
        exact h
      | false =>
        refine go_iload_n (q := 49) (gDec iX11_readContour_ok 26 rfl) rfl rfl rfl ?_
        refine go_bipush (v := nI 12) (q := 51) (gDec iX11_readContour_ok 27 rfl) (by decide) rfl ?_
        refine go_icmp_ge (t := 66) (q := 54) (gDec iX11_readContour_ok 28 rfl) (by decide) rfl (fun c51 => ?_) (fun c51 => False.elim (c51 (nI_le (by omega) (by omega))))
        refine go_iconst (v := nI 0) (q := 67) (gDec iX11_readContour_ok 35 rfl) (by decide) rfl ?_
        refine go_istore (q := 69) (gDec iX11_readContour_ok 36 rfl) (by decide) rfl ?_
        refine go_aload_n (q := 70) (gDec iX11_readContour_ok 37 rfl) rfl rfl rfl ?_
        refine go_aload_n (q := 71) (gDec iX11_readContour_ok 38 rfl) rfl rfl rfl ?_
        refine go_geti (q := 74) fX11_258 (gDec iX11_readContour_ok 39 rfl) rfl (by decide) rfl ?_
        refine go_top (v' := 1) (rfl) ?_
        refine go_if_ne (t := 89) (q := 77) (gDec iX11_readContour_ok 40 rfl) (by decide) rfl (fun c74 => ?_) (fun c74 => False.elim (absurd c74 (by decide)))
        refine go_iconst (v := nI 1) (q := 90) (gDec iX11_readContour_ok 46 rfl) (by decide) rfl ?_
        refine go_goto (t := 94) (gDec iX11_readContour_ok 47 rfl) (by decide) ?_
        refine go_puti (q := 97) fX11_258 gft11 (gDec iX11_readContour_ok 49 rfl) rfl (by decide) rfl rfl rfl rfl ?_
        refine go_sub (L' := [(0, .ref (κ.2.1 + 376)), (1, .int (nI q)), (3, .int x), (4, .int y), (5, .int (o1 false))]) ⟨rfl, rfl, rfl, rfl, rfl, trivial⟩ ?_
        exact h
    | false =>
      cases w with
      | true =>
        rw [show bF q K false true = false from if_neg (fun h9 => h9.elim (fun h8 => by cases h8) (fun h8 => by cases h8.2)), e] at h
        refine go_iload_n (q := 49) (gDec iX11_readContour_ok 26 rfl) rfl rfl rfl ?_
        refine go_bipush (v := nI 12) (q := 51) (gDec iX11_readContour_ok 27 rfl) (by decide) rfl ?_
        refine go_icmp_ge (t := 66) (q := 54) (gDec iX11_readContour_ok 28 rfl) (by decide) rfl (fun c51 => ?_) (fun c51 => False.elim (c51 (nI_le (by omega) (by omega))))
        refine go_iconst (v := nI 0) (q := 67) (gDec iX11_readContour_ok 35 rfl) (by decide) rfl ?_
        refine go_istore (q := 69) (gDec iX11_readContour_ok 36 rfl) (by decide) rfl ?_
        refine go_aload_n (q := 70) (gDec iX11_readContour_ok 37 rfl) rfl rfl rfl ?_
        refine go_aload_n (q := 71) (gDec iX11_readContour_ok 38 rfl) rfl rfl rfl ?_
        refine go_geti (q := 74) fX11_258 (gDec iX11_readContour_ok 39 rfl) rfl (by decide) rfl ?_
        refine go_top (v' := 0) (rfl) ?_
        refine go_if_ne (t := 89) (q := 77) (gDec iX11_readContour_ok 40 rfl) (by decide) rfl (fun c74 => False.elim (c74 rfl)) (fun c74 => ?_)
        refine go_iload (q := 79) (gDec iX11_readContour_ok 41 rfl) rfl rfl ?_
        refine go_if_ne (t := 93) (q := 82) (gDec iX11_readContour_ok 42 rfl) (by decide) rfl (fun c79 => False.elim (c79 rfl)) (fun c79 => ?_)
        refine go_aload_n (q := 83) (gDec iX11_readContour_ok 43 rfl) rfl rfl rfl ?_
        refine go_geti (q := 86) fX11_247 (gDec iX11_readContour_ok 44 rfl) rfl (by decide) rfl ?_
        refine go_top (v' := 1) (rfl) ?_
        refine go_if_ne (t := 93) (q := 89) (gDec iX11_readContour_ok 45 rfl) (by decide) rfl (fun c86 => ?_) (fun c86 => False.elim (absurd c86 (by decide)))
        refine go_iconst (v := nI 0) (q := 94) (gDec iX11_readContour_ok 48 rfl) (by decide) rfl ?_
        refine go_puti (q := 97) fX11_258 gft11 (gDec iX11_readContour_ok 49 rfl) rfl (by decide) rfl rfl rfl rfl ?_
        refine go_sub (L' := [(0, .ref (κ.2.1 + 376)), (1, .int (nI q)), (3, .int x), (4, .int y), (5, .int (o1 false))]) ⟨rfl, rfl, rfl, rfl, rfl, trivial⟩ ?_
        exact h
      | false =>
        rw [show bF q K false false = true from if_pos (Or.inr ⟨e, rfl⟩), e] at h
        refine go_iload_n (q := 49) (gDec iX11_readContour_ok 26 rfl) rfl rfl rfl ?_
        refine go_bipush (v := nI 12) (q := 51) (gDec iX11_readContour_ok 27 rfl) (by decide) rfl ?_
        refine go_icmp_ge (t := 66) (q := 54) (gDec iX11_readContour_ok 28 rfl) (by decide) rfl (fun c51 => ?_) (fun c51 => False.elim (c51 (nI_le (by omega) (by omega))))
        refine go_iconst (v := nI 0) (q := 67) (gDec iX11_readContour_ok 35 rfl) (by decide) rfl ?_
        refine go_istore (q := 69) (gDec iX11_readContour_ok 36 rfl) (by decide) rfl ?_
        refine go_aload_n (q := 70) (gDec iX11_readContour_ok 37 rfl) rfl rfl rfl ?_
        refine go_aload_n (q := 71) (gDec iX11_readContour_ok 38 rfl) rfl rfl rfl ?_
        refine go_geti (q := 74) fX11_258 (gDec iX11_readContour_ok 39 rfl) rfl (by decide) rfl ?_
        refine go_top (v' := 0) (rfl) ?_
        refine go_if_ne (t := 89) (q := 77) (gDec iX11_readContour_ok 40 rfl) (by decide) rfl (fun c74 => False.elim (c74 rfl)) (fun c74 => ?_)
        refine go_iload (q := 79) (gDec iX11_readContour_ok 41 rfl) rfl rfl ?_
        refine go_if_ne (t := 93) (q := 82) (gDec iX11_readContour_ok 42 rfl) (by decide) rfl (fun c79 => False.elim (c79 rfl)) (fun c79 => ?_)
        refine go_aload_n (q := 83) (gDec iX11_readContour_ok 43 rfl) rfl rfl rfl ?_
        refine go_geti (q := 86) fX11_247 (gDec iX11_readContour_ok 44 rfl) rfl (by decide) rfl ?_
        refine go_top (v' := 0) (rfl) ?_
        refine go_if_ne (t := 93) (q := 89) (gDec iX11_readContour_ok 45 rfl) (by decide) rfl (fun c86 => False.elim (c86 rfl)) (fun c86 => ?_)
        refine go_iconst (v := nI 1) (q := 90) (gDec iX11_readContour_ok 46 rfl) (by decide) rfl ?_
        refine go_goto (t := 94) (gDec iX11_readContour_ok 47 rfl) (by decide) ?_
        refine go_puti (q := 97) fX11_258 gft11 (gDec iX11_readContour_ok 49 rfl) rfl (by decide) rfl rfl rfl rfl ?_
        refine go_sub (L' := [(0, .ref (κ.2.1 + 376)), (1, .int (nI q)), (3, .int x), (4, .int y), (5, .int (o1 false))]) ⟨rfl, rfl, rfl, rfl, rfl, trivial⟩ ?_
        exact h

set_option maxHeartbeats 4000000 in
set_option maxRecDepth 100000 in
theorem lpX11_rcD {κ : gK} {Z : gZ} {σ : gST} {q p n : Nat} {w b : Bool} {K : Nat} {rd rm : Nat → Int32} {x y : Int32} (h : Go κ mX11_readContour (gRm 4 0) Z 139 [(0, .ref (κ.2.1 + 376)), (1, .int (nI q))] [] (wr σ p w b K (rD q K x y rd) rm) 0) : Go κ mX11_readContour (gRm 4 0) Z 97 [(0, .ref (κ.2.1 + 376)), (1, .int (nI q)), (3, .int x), (4, .int y), (5, .int (o1 (fF q K)))] [] (wr σ p w b K rd rm) 0 := by
  by_cases h1 : q < 12 ∧ K < 3
  · have e : fF q K = true := if_pos h1
    obtain ⟨h1, h2⟩ := h1
    rw [show rD q K x y rd = upd (upd rd (2 * (12 * K + q)) x) ((2 * (12 * K + q)) + 1) y from if_pos e] at h
    rw [e]
    refine go_iload (q := 99) (gDec iX11_readContour_ok 50 rfl) rfl rfl ?_
    refine go_if_eq (t := 139) (q := 102) (gDec iX11_readContour_ok 51 rfl) (by decide) rfl (fun c99 => False.elim (absurd c99 (by decide))) (fun c99 => ?_)
    refine go_aload_n (q := 103) (gDec iX11_readContour_ok 52 rfl) rfl rfl rfl ?_
    refine go_getr (r' := 388) (q := 106) fX11_48 (gDec iX11_readContour_ok 53 rfl) rfl (by decide) rfl ?_
    refine go_iconst (v := nI 2) (q := 107) (gDec iX11_readContour_ok 54 rfl) (by decide) rfl ?_
    refine go_bipush (v := nI 12) (q := 109) (gDec iX11_readContour_ok 55 rfl) (by decide) rfl ?_
    refine go_aload_n (q := 110) (gDec iX11_readContour_ok 56 rfl) rfl rfl rfl ?_
    refine go_geti (q := 113) fX11_267 (gDec iX11_readContour_ok 57 rfl) rfl (by decide) rfl ?_
    refine go_top (v' := nI K) (rfl) ?_
    refine go_imulN (c := 12 * K) (q := 114) (gDec iX11_readContour_ok 58 rfl) rfl rfl ?_
    refine go_iload_n (q := 115) (gDec iX11_readContour_ok 59 rfl) rfl rfl rfl ?_
    refine go_iaddN (c := 12 * K + q) (q := 116) (gDec iX11_readContour_ok 60 rfl) rfl rfl ?_
    refine go_imulN (c := 2 * (12 * K + q)) (q := 117) (gDec iX11_readContour_ok 61 rfl) rfl rfl ?_
    refine go_iload_n (q := 118) (gDec iX11_readContour_ok 62 rfl) rfl rfl rfl ?_
    refine go_iastN (q := 119) (gDec iX11_readContour_ok 63 rfl) rfl (by decide) (by omega) (by decide) rfl ?_
    refine go_w (show _ = (wr σ p w b K (upd rd (2 * (12 * K + q)) x) rm) from wr_rd _ _) ?_
    refine go_aload_n (q := 120) (gDec iX11_readContour_ok 64 rfl) rfl rfl rfl ?_
    refine go_getr (r' := 388) (q := 123) fX11_48 (gDec iX11_readContour_ok 65 rfl) rfl (by decide) rfl ?_
    refine go_iconst (v := nI 2) (q := 124) (gDec iX11_readContour_ok 66 rfl) (by decide) rfl ?_
    refine go_bipush (v := nI 12) (q := 126) (gDec iX11_readContour_ok 67 rfl) (by decide) rfl ?_
    refine go_aload_n (q := 127) (gDec iX11_readContour_ok 68 rfl) rfl rfl rfl ?_
    refine go_geti (q := 130) fX11_267 (gDec iX11_readContour_ok 69 rfl) rfl (by decide) rfl ?_
    refine go_top (v' := nI K) (rfl) ?_
    refine go_imulN (c := 12 * K) (q := 131) (gDec iX11_readContour_ok 70 rfl) rfl rfl ?_
    refine go_iload_n (q := 132) (gDec iX11_readContour_ok 71 rfl) rfl rfl rfl ?_
    refine go_iaddN (c := 12 * K + q) (q := 133) (gDec iX11_readContour_ok 72 rfl) rfl rfl ?_
    refine go_imulN (c := 2 * (12 * K + q)) (q := 134) (gDec iX11_readContour_ok 73 rfl) rfl rfl ?_
    refine go_iconst (v := nI 1) (q := 135) (gDec iX11_readContour_ok 74 rfl) (by decide) rfl ?_
    refine go_iaddN (c := 2 * (12 * K + q) + 1) (q := 136) (gDec iX11_readContour_ok 75 rfl) rfl rfl ?_
    refine go_iload (q := 138) (gDec iX11_readContour_ok 76 rfl) rfl rfl ?_
    refine go_iastN (q := 139) (gDec iX11_readContour_ok 77 rfl) rfl (by decide) (by omega) (by decide) rfl ?_
    refine go_sub (L' := [(0, .ref (κ.2.1 + 376)), (1, .int (nI q))]) ⟨rfl, rfl, trivial⟩ ?_
    exact h
  · have e : fF q K = false := if_neg h1
    rw [show rD q K x y rd = rd from if_neg (fun h9 => by rw [e] at h9; cases h9)] at h
    rw [e]
    refine go_iload (q := 99) (gDec iX11_readContour_ok 50 rfl) rfl rfl ?_
    refine go_if_eq (t := 139) (q := 102) (gDec iX11_readContour_ok 51 rfl) (by decide) rfl (fun c99 => ?_) (fun c99 => False.elim (c99 rfl))
    refine go_sub (L' := [(0, .ref (κ.2.1 + 376)), (1, .int (nI q))]) ⟨rfl, rfl, trivial⟩ ?_
    exact h

theorem nI_nlt3 {a b : Nat} (h : b ≤ a) (ha : a < 2 ^ 31) (h2 : nI a < nI b) : False := by
  have h3 := i32_lt.mp h2
  rw [nI_toInt ha, nI_toInt (by omega)] at h3
  omega
set_option maxHeartbeats 4000000 in
set_option maxRecDepth 100000 in
theorem lpX11_rcE {κ : gK} {Z : gZ} {σ : gST} {q p n : Nat} {w b : Bool} {K : Nat} {rd rm : Nat → Int32} (h7 : σ.1 376 7 = nI n) (h60 : n ≤ 60) (hp : p ≤ n) (hq : q < 1000) (h : Go κ mX11_readContour (gRm 4 0) Z 10 [(0, .ref (κ.2.1 + 376)), (1, .int (nI (q + 1))), (2, .int (o1 (mF (σ.1 380) n q p)))] [] (wr σ p w b K rd rm) 0) : Go κ mX11_readContour (gRm 4 0) Z 139 [(0, .ref (κ.2.1 + 376)), (1, .int (nI q))] [] (wr σ p w b K rd rm) 0 := by
  by_cases h1 : q + 1 < 3
  · rw [show mF (σ.1 380) n q p = true from if_pos (Or.inl h1)] at h
    refine go_iinc (v := nI (q + 1)) (q := 142) (gDec iX11_readContour_ok 78 rfl) rfl (nI_1 _) (by decide) rfl ?_
    refine go_iload_n (q := 143) (gDec iX11_readContour_ok 79 rfl) rfl rfl rfl ?_
    refine go_iconst (v := nI 3) (q := 144) (gDec iX11_readContour_ok 80 rfl) (by decide) rfl ?_
    refine go_icmp_lt (t := 156) (q := 147) (gDec iX11_readContour_ok 81 rfl) (by decide) rfl (fun c144 => ?_) (fun c144 => False.elim (c144 (nI_lt (by omega) (by omega))))
    refine go_iconst (v := nI 1) (q := 157) (gDec iX11_readContour_ok 86 rfl) (by decide) rfl ?_
    refine go_goto (t := 161) (gDec iX11_readContour_ok 87 rfl) (by decide) ?_
    refine go_istore_n (q := 162) (gDec iX11_readContour_ok 89 rfl) rfl (by decide) rfl ?_
    refine go_goto (t := 10) (gDec iX11_readContour_ok 90 rfl) (by decide) ?_
    refine go_sub (L' := [(0, .ref (κ.2.1 + 376)), (1, .int (nI (q + 1))), (2, .int 1)]) ⟨rfl, rfl, rfl, trivial⟩ ?_
    exact h
  · by_cases h2 : hr (σ.1 380) n p = 41
    · rw [show mF (σ.1 380) n q p = false from if_neg (fun h9 => h9.elim h1 (fun h8 => h8 h2))] at h
      refine go_iinc (v := nI (q + 1)) (q := 142) (gDec iX11_readContour_ok 78 rfl) rfl (nI_1 _) (by decide) rfl ?_
      refine go_iload_n (q := 143) (gDec iX11_readContour_ok 79 rfl) rfl rfl rfl ?_
      refine go_iconst (v := nI 3) (q := 144) (gDec iX11_readContour_ok 80 rfl) (by decide) rfl ?_
      refine go_icmp_lt (t := 156) (q := 147) (gDec iX11_readContour_ok 81 rfl) (by decide) rfl (fun c144 => False.elim (nI_nlt3 (by omega) (by omega) c144)) (fun c144 => ?_)
      refine go_aload_n (q := 148) (gDec iX11_readContour_ok 82 rfl) rfl rfl rfl ?_
      refine go_callV (n2 := 0) (q := 151) kX11_251 (ctX11_here h7 h60 hp) (gDec iX11_readContour_ok 83 rfl) rfl rfl (by decide) rfl rfl rfl (Nat.le_of_ble_eq_true rfl) rfl (gFit_rm (by decide) (by decide)) rfl ?_
      refine go_bipush (v := 41) (q := 153) (gDec iX11_readContour_ok 84 rfl) (by decide) rfl ?_
      refine go_icmp_eq (t := 160) (q := 156) (gDec iX11_readContour_ok 85 rfl) (by decide) rfl (fun c153 => ?_) (fun c153 => False.elim (c153 h2))
      refine go_iconst (v := nI 0) (q := 161) (gDec iX11_readContour_ok 88 rfl) (by decide) rfl ?_
      refine go_istore_n (q := 162) (gDec iX11_readContour_ok 89 rfl) rfl (by decide) rfl ?_
      refine go_goto (t := 10) (gDec iX11_readContour_ok 90 rfl) (by decide) ?_
      refine go_sub (L' := [(0, .ref (κ.2.1 + 376)), (1, .int (nI (q + 1))), (2, .int 0)]) ⟨rfl, rfl, rfl, trivial⟩ ?_
      exact h
    · rw [show mF (σ.1 380) n q p = true from if_pos (Or.inr h2)] at h
      refine go_iinc (v := nI (q + 1)) (q := 142) (gDec iX11_readContour_ok 78 rfl) rfl (nI_1 _) (by decide) rfl ?_
      refine go_iload_n (q := 143) (gDec iX11_readContour_ok 79 rfl) rfl rfl rfl ?_
      refine go_iconst (v := nI 3) (q := 144) (gDec iX11_readContour_ok 80 rfl) (by decide) rfl ?_
      refine go_icmp_lt (t := 156) (q := 147) (gDec iX11_readContour_ok 81 rfl) (by decide) rfl (fun c144 => False.elim (nI_nlt3 (by omega) (by omega) c144)) (fun c144 => ?_)
      refine go_aload_n (q := 148) (gDec iX11_readContour_ok 82 rfl) rfl rfl rfl ?_
      refine go_callV (n2 := 0) (q := 151) kX11_251 (ctX11_here h7 h60 hp) (gDec iX11_readContour_ok 83 rfl) rfl rfl (by decide) rfl rfl rfl (Nat.le_of_ble_eq_true rfl) rfl (gFit_rm (by decide) (by decide)) rfl ?_
      refine go_bipush (v := 41) (q := 153) (gDec iX11_readContour_ok 84 rfl) (by decide) rfl ?_
      refine go_icmp_eq (t := 160) (q := 156) (gDec iX11_readContour_ok 85 rfl) (by decide) rfl (fun c153 => False.elim (h2 c153)) (fun c153 => ?_)
      refine go_iconst (v := nI 1) (q := 157) (gDec iX11_readContour_ok 86 rfl) (by decide) rfl ?_
      refine go_goto (t := 161) (gDec iX11_readContour_ok 87 rfl) (by decide) ?_
      refine go_istore_n (q := 162) (gDec iX11_readContour_ok 89 rfl) rfl (by decide) rfl ?_
      refine go_goto (t := 10) (gDec iX11_readContour_ok 90 rfl) (by decide) ?_
      refine go_sub (L' := [(0, .ref (κ.2.1 + 376)), (1, .int (nI (q + 1))), (2, .int 1)]) ⟨rfl, rfl, rfl, trivial⟩ ?_
      exact h
