theorem l_mulB {x z : Int64} {a b : Nat} (hx : x.toInt.natAbs ≤ a) (hz : z.toInt.natAbs ≤ b) (hab : a * b < 2 ^ 60) : (x * z).toInt = x.toInt * z.toInt ∧ (x.toInt * z.toInt).natAbs ≤ a * b := by
  have h1 : (x.toInt * z.toInt).natAbs ≤ a * b := by
    rw [Int.natAbs_mul]
    exact Nat.mul_le_mul hx hz
  refine ⟨?_, h1⟩
  rw [Int64.toInt_mul]
  exact Int.bmod_eq_of_le_mul_two (by omega) (by omega)
theorem l_addB {x y : Int64} (h : -2 ^ 60 ≤ x.toInt + y.toInt ∧ x.toInt + y.toInt < 2 ^ 60) : (x + y).toInt = x.toInt + y.toInt := by
  rw [Int64.toInt_add]
  exact Int.bmod_eq_of_le_mul_two (by omega) (by omega)
theorem l_subB {x y : Int64} (h : -2 ^ 60 ≤ x.toInt - y.toInt ∧ x.toInt - y.toInt < 2 ^ 60) : (x - y).toInt = x.toInt - y.toInt := by
  rw [Int64.toInt_sub]
  exact Int.bmod_eq_of_le_mul_two (by omega) (by omega)
def gLf (x y u v z mx my : Int) : Int := (z * x - mx) * (v - y) + (my - z * y) * (u - x)
/-- whether a side is crossed -/
def gCrZ (x y u v z mx my : Int) : Bool := if (y * z ≤ my ↔ v * z ≤ my) then false else if y * z ≤ my then decide (0 < gLf x y u v z mx my) else decide (gLf x y u v z mx my < 0)
abbrev gCo1 (x : Int) : Prop := -200 ≤ x ∧ x ≤ 1200
theorem gLf_l {X Y U V Z MX MY : Int64} (hX : gCo1 X.toInt) (hY : gCo1 Y.toInt) (hU : gCo1 U.toInt) (hV : gCo1 V.toInt) (hZ : 6 ≤ Z.toInt ∧ Z.toInt ≤ 60) (hMX : MX.toInt.natAbs ≤ 100500) (hMY : MY.toInt.natAbs ≤ 100500) :
    ((Z * X - MX) * (V - Y) + (MY - Z * Y) * (U - X)).toInt = gLf X.toInt Y.toInt U.toInt V.toInt Z.toInt MX.toInt MY.toInt ∧ (Y * Z).toInt = Y.toInt * Z.toInt ∧ (V * Z).toInt = V.toInt * Z.toInt := by
  obtain ⟨e1, b1⟩ := l_mulB (x := Z) (z := X) (a := 60) (b := 1200) (by omega) (by omega) (by decide)
  obtain ⟨e2, b2⟩ := l_mulB (x := Z) (z := Y) (a := 60) (b := 1200) (by omega) (by omega) (by decide)
  obtain ⟨e3, b3⟩ := l_mulB (x := Y) (z := Z) (a := 1200) (b := 60) (by omega) (by omega) (by decide)
  obtain ⟨e4, b4⟩ := l_mulB (x := V) (z := Z) (a := 1200) (b := 60) (by omega) (by omega) (by decide)
  have s1 : (Z * X - MX).toInt = Z.toInt * X.toInt - MX.toInt := by rw [← e1]; exact l_subB (by omega)
  have s2 : (MY - Z * Y).toInt = MY.toInt - Z.toInt * Y.toInt := by rw [← e2]; exact l_subB (by omega)
  have s3 : (V - Y).toInt = V.toInt - Y.toInt := l_subB (by omega)
  have s4 : (U - X).toInt = U.toInt - X.toInt := l_subB (by omega)
  obtain ⟨e5, b5⟩ := l_mulB (x := Z * X - MX) (z := V - Y) (a := 172500) (b := 1400) (by omega) (by omega) (by decide)
  obtain ⟨e6, b6⟩ := l_mulB (x := MY - Z * Y) (z := U - X) (a := 172500) (b := 1400) (by omega) (by omega) (by decide)
  refine ⟨?_, e3, e4⟩
  rw [l_addB (by rw [e5, e6]; omega), e5, e6, s1, s2, s3, s4]
  rfl
theorem lg_gtN {x y : Int64} (h : x.toInt ≤ y.toInt) : ¬ 0 < lg_cmp x y := fun h9 => by
  have := Int64.lt_iff_toInt_lt.mp ((lg_cmp_gt _ _).mp h9)
  omega
theorem lg_gtY {x y : Int64} (h : y.toInt < x.toInt) : 0 < lg_cmp x y := (lg_cmp_gt _ _).mpr (Int64.lt_iff_toInt_lt.mpr h)
theorem lg_geN {x y : Int64} (h : x.toInt < y.toInt) : ¬ 0 ≤ lg_cmp x y := fun h9 => by
  have := Int64.le_iff_toInt_le.mp ((lg_cmp_ge _ _).mp h9)
  omega
theorem lg_geY {x y : Int64} (h : y.toInt ≤ x.toInt) : 0 ≤ lg_cmp x y := (lg_cmp_ge _ _).mpr (Int64.le_iff_toInt_le.mpr h)

set_option maxHeartbeats 4000000 in
set_option maxRecDepth 100000 in
theorem ctX11_crosses {κ : gK} {σ : gST} {X Y U V Z MX MY : Int64} (hX : gCo1 X.toInt) (hY : gCo1 Y.toInt) (hU : gCo1 U.toInt) (hV : gCo1 V.toInt) (hZ : 6 ≤ Z.toInt ∧ Z.toInt ≤ 60) (hMX : MX.toInt.natAbs ≤ 100500) (hMY : MY.toInt.natAbs ≤ 100500) :
    gCt κ mX11_crosses 0 [.long X, .long Y, .long U, .long V, .long Z, .long MX, .long MY] σ (.inl (some (.int (bI (gCrZ X.toInt Y.toInt U.toInt V.toInt Z.toInt MX.toInt MY.toInt))))) σ 0 := by
  obtain ⟨eL, eY, eV⟩ := gLf_l hX hY hU hV hZ hMX hMY
  refine ct_of (by decide +kernel) rfl (Nat.le_of_ble_eq_true rfl) rfl ?_
  unfold gCrZ
  by_cases ha : Y.toInt * Z.toInt ≤ MY.toInt
  · by_cases hb : V.toInt * Z.toInt ≤ MY.toInt
    · rw [if_pos (iff_of_true ha hb)]
      refine go_lload_n (q := 1) (gDec iX11_crosses_ok 0 rfl) rfl rfl rfl ?_
      refine go_lload (q := 3) (gDec iX11_crosses_ok 1 rfl) rfl rfl ?_
      refine go_lmul (q := 4) (gDec iX11_crosses_ok 2 rfl) rfl ?_
      refine go_lload (q := 6) (gDec iX11_crosses_ok 3 rfl) rfl rfl ?_
      refine go_lcmp (q := 7) (gDec iX11_crosses_ok 4 rfl) rfl ?_
      refine go_if_gt (t := 25) (q := 10) (gDec iX11_crosses_ok 5 rfl) (by decide) rfl (fun c7 => False.elim (lg_gtN (by rw [eY]; omega) c7)) (fun c7 => ?_)
      refine go_lload (q := 12) (gDec iX11_crosses_ok 6 rfl) rfl rfl ?_
      refine go_lload (q := 14) (gDec iX11_crosses_ok 7 rfl) rfl rfl ?_
      refine go_lload (q := 16) (gDec iX11_crosses_ok 8 rfl) rfl rfl ?_
      refine go_lmul (q := 17) (gDec iX11_crosses_ok 9 rfl) rfl ?_
      refine go_lcmp (q := 18) (gDec iX11_crosses_ok 10 rfl) rfl ?_
      refine go_if_ge (t := 25) (q := 21) (gDec iX11_crosses_ok 11 rfl) (by decide) rfl (fun c18 => ?_) (fun c18 => False.elim (c18 (lg_geY (by rw [eV]; omega))))
      refine go_iconst (v := 0) (q := 26) (gDec iX11_crosses_ok 14 rfl) (by decide) rfl ?_
      refine go_istore (q := 28) (gDec iX11_crosses_ok 15 rfl) (by decide) rfl ?_
      refine go_lload (q := 30) (gDec iX11_crosses_ok 16 rfl) rfl rfl ?_
      refine go_lload (q := 32) (gDec iX11_crosses_ok 17 rfl) rfl rfl ?_
      refine go_lmul (q := 33) (gDec iX11_crosses_ok 18 rfl) rfl ?_
      refine go_lload (q := 35) (gDec iX11_crosses_ok 19 rfl) rfl rfl ?_
      refine go_lcmp (q := 36) (gDec iX11_crosses_ok 20 rfl) rfl ?_
      refine go_if_gt (t := 53) (q := 39) (gDec iX11_crosses_ok 21 rfl) (by decide) rfl (fun c36 => False.elim (lg_gtN (by rw [eV]; omega) c36)) (fun c36 => ?_)
      refine go_lload (q := 41) (gDec iX11_crosses_ok 22 rfl) rfl rfl ?_
      refine go_lload_n (q := 42) (gDec iX11_crosses_ok 23 rfl) rfl rfl rfl ?_
      refine go_lload (q := 44) (gDec iX11_crosses_ok 24 rfl) rfl rfl ?_
      refine go_lmul (q := 45) (gDec iX11_crosses_ok 25 rfl) rfl ?_
      refine go_lcmp (q := 46) (gDec iX11_crosses_ok 26 rfl) rfl ?_
      refine go_if_ge (t := 53) (q := 49) (gDec iX11_crosses_ok 27 rfl) (by decide) rfl (fun c46 => ?_) (fun c46 => False.elim (c46 (lg_geY (by rw [eY]; omega))))
      refine go_iconst (v := 0) (q := 54) (gDec iX11_crosses_ok 30 rfl) (by decide) rfl ?_
      refine go_istore (q := 56) (gDec iX11_crosses_ok 31 rfl) (by decide) rfl ?_
      refine go_iload (q := 58) (gDec iX11_crosses_ok 32 rfl) rfl rfl ?_
      refine go_if_ne (t := 68) (q := 61) (gDec iX11_crosses_ok 33 rfl) (by decide) rfl (fun c58 => False.elim (c58 rfl)) (fun c58 => ?_)
      refine go_iload (q := 63) (gDec iX11_crosses_ok 34 rfl) rfl rfl ?_
      refine go_if_ne (t := 68) (q := 66) (gDec iX11_crosses_ok 35 rfl) (by decide) rfl (fun c63 => False.elim (c63 rfl)) (fun c63 => ?_)
      refine go_iconst (v := 0) (q := 67) (gDec iX11_crosses_ok 36 rfl) (by decide) rfl ?_
      exact go_ireturn (gDec iX11_crosses_ok 37 rfl) rfl rfl rfl rfl (by decide)
    · rw [if_neg (fun h9 => hb (h9.mp ha)), if_pos ha]
      refine go_lload_n (q := 1) (gDec iX11_crosses_ok 0 rfl) rfl rfl rfl ?_
      refine go_lload (q := 3) (gDec iX11_crosses_ok 1 rfl) rfl rfl ?_
      refine go_lmul (q := 4) (gDec iX11_crosses_ok 2 rfl) rfl ?_
      refine go_lload (q := 6) (gDec iX11_crosses_ok 3 rfl) rfl rfl ?_
      refine go_lcmp (q := 7) (gDec iX11_crosses_ok 4 rfl) rfl ?_
      refine go_if_gt (t := 25) (q := 10) (gDec iX11_crosses_ok 5 rfl) (by decide) rfl (fun c7 => False.elim (lg_gtN (by rw [eY]; omega) c7)) (fun c7 => ?_)
      refine go_lload (q := 12) (gDec iX11_crosses_ok 6 rfl) rfl rfl ?_
      refine go_lload (q := 14) (gDec iX11_crosses_ok 7 rfl) rfl rfl ?_
      refine go_lload (q := 16) (gDec iX11_crosses_ok 8 rfl) rfl rfl ?_
      refine go_lmul (q := 17) (gDec iX11_crosses_ok 9 rfl) rfl ?_
      refine go_lcmp (q := 18) (gDec iX11_crosses_ok 10 rfl) rfl ?_
      refine go_if_ge (t := 25) (q := 21) (gDec iX11_crosses_ok 11 rfl) (by decide) rfl (fun c18 => False.elim (lg_geN (by rw [eV]; omega) c18)) (fun c18 => ?_)
      refine go_iconst (v := 1) (q := 22) (gDec iX11_crosses_ok 12 rfl) (by decide) rfl ?_
      refine go_goto (t := 26) (gDec iX11_crosses_ok 13 rfl) (by decide) ?_
      refine go_istore (q := 28) (gDec iX11_crosses_ok 15 rfl) (by decide) rfl ?_
      refine go_lload (q := 30) (gDec iX11_crosses_ok 16 rfl) rfl rfl ?_
      refine go_lload (q := 32) (gDec iX11_crosses_ok 17 rfl) rfl rfl ?_
      refine go_lmul (q := 33) (gDec iX11_crosses_ok 18 rfl) rfl ?_
      refine go_lload (q := 35) (gDec iX11_crosses_ok 19 rfl) rfl rfl ?_
      refine go_lcmp (q := 36) (gDec iX11_crosses_ok 20 rfl) rfl ?_
      refine go_if_gt (t := 53) (q := 39) (gDec iX11_crosses_ok 21 rfl) (by decide) rfl (fun c36 => ?_) (fun c36 => False.elim (c36 (lg_gtY (by rw [eV]; omega))))
      refine go_iconst (v := 0) (q := 54) (gDec iX11_crosses_ok 30 rfl) (by decide) rfl ?_
      refine go_istore (q := 56) (gDec iX11_crosses_ok 31 rfl) (by decide) rfl ?_
      refine go_iload (q := 58) (gDec iX11_crosses_ok 32 rfl) rfl rfl ?_
      refine go_if_ne (t := 68) (q := 61) (gDec iX11_crosses_ok 33 rfl) (by decide) rfl (fun c58 => ?_) (fun c58 => False.elim (absurd c58 (by decide)))
      refine go_lload (q := 70) (gDec iX11_crosses_ok 38 rfl) rfl rfl ?_
      refine go_lload_n (q := 71) (gDec iX11_crosses_ok 39 rfl) rfl rfl rfl ?_
      refine go_lmul (q := 72) (gDec iX11_crosses_ok 40 rfl) rfl ?_
      refine go_lload (q := 74) (gDec iX11_crosses_ok 41 rfl) rfl rfl ?_
      refine go_lsub (q := 75) (gDec iX11_crosses_ok 42 rfl) rfl ?_
      refine go_lload (q := 77) (gDec iX11_crosses_ok 43 rfl) rfl rfl ?_
      refine go_lload_n (q := 78) (gDec iX11_crosses_ok 44 rfl) rfl rfl rfl ?_
      refine go_lsub (q := 79) (gDec iX11_crosses_ok 45 rfl) rfl ?_
      refine go_lmul (q := 80) (gDec iX11_crosses_ok 46 rfl) rfl ?_
      refine go_lload (q := 82) (gDec iX11_crosses_ok 47 rfl) rfl rfl ?_
      refine go_lload (q := 84) (gDec iX11_crosses_ok 48 rfl) rfl rfl ?_
      refine go_lload_n (q := 85) (gDec iX11_crosses_ok 49 rfl) rfl rfl rfl ?_
      refine go_lmul (q := 86) (gDec iX11_crosses_ok 50 rfl) rfl ?_
      refine go_lsub (q := 87) (gDec iX11_crosses_ok 51 rfl) rfl ?_
      refine go_lload (q := 89) (gDec iX11_crosses_ok 52 rfl) rfl rfl ?_
      refine go_lload_n (q := 90) (gDec iX11_crosses_ok 53 rfl) rfl rfl rfl ?_
      refine go_lsub (q := 91) (gDec iX11_crosses_ok 54 rfl) rfl ?_
      refine go_lmul (q := 92) (gDec iX11_crosses_ok 55 rfl) rfl ?_
      refine go_ladd (q := 93) (gDec iX11_crosses_ok 56 rfl) rfl ?_
      refine go_lstore (q := 95) (gDec iX11_crosses_ok 57 rfl) (by decide) rfl ?_
      refine go_iload (q := 97) (gDec iX11_crosses_ok 58 rfl) rfl rfl ?_
      refine go_if_eq (t := 115) (q := 100) (gDec iX11_crosses_ok 59 rfl) (by decide) rfl (fun c97 => False.elim (absurd c97 (by decide))) (fun c97 => ?_)
      refine go_lload (q := 102) (gDec iX11_crosses_ok 60 rfl) rfl rfl ?_
      refine go_lconst (v := 0) (q := 103) (gDec iX11_crosses_ok 61 rfl) (by decide) rfl ?_
      refine go_lcmp (q := 104) (gDec iX11_crosses_ok 62 rfl) rfl ?_
      refine go_if_le (t := 111) (q := 107) (gDec iX11_crosses_ok 63 rfl) (by decide) rfl (fun c104 => ?_) (fun c104 => ?_)
      · refine go_iconst (v := 0) (q := 112) (gDec iX11_crosses_ok 66 rfl) (by decide) rfl ?_
        refine go_goto (t := 127) (gDec iX11_crosses_ok 67 rfl) (by decide) ?_
        exact go_ireturn (gDec iX11_crosses_ok 75 rfl) rfl rfl (by first | (rw [show decide (0 < gLf X.toInt Y.toInt U.toInt V.toInt Z.toInt MX.toInt MY.toInt) = true from decide_eq_true (by have h9 := Int64.lt_iff_toInt_lt.mp (Int64.not_le.mp (fun h8 => c104 ((lg_cmp_le _ _).mpr h8))); rw [eL] at h9; exact h9)]; rfl) | (rw [show decide (0 < gLf X.toInt Y.toInt U.toInt V.toInt Z.toInt MX.toInt MY.toInt) = false from decide_eq_false (by have h9 := Int64.le_iff_toInt_le.mp ((lg_cmp_le _ _).mp c104); rw [eL] at h9; exact Int.not_lt.mpr h9)]; rfl)) rfl (by decide)
      · refine go_iconst (v := 1) (q := 108) (gDec iX11_crosses_ok 64 rfl) (by decide) rfl ?_
        refine go_goto (t := 127) (gDec iX11_crosses_ok 65 rfl) (by decide) ?_
        exact go_ireturn (gDec iX11_crosses_ok 75 rfl) rfl rfl (by first | (rw [show decide (0 < gLf X.toInt Y.toInt U.toInt V.toInt Z.toInt MX.toInt MY.toInt) = true from decide_eq_true (by have h9 := Int64.lt_iff_toInt_lt.mp (Int64.not_le.mp (fun h8 => c104 ((lg_cmp_le _ _).mpr h8))); rw [eL] at h9; exact h9)]; rfl) | (rw [show decide (0 < gLf X.toInt Y.toInt U.toInt V.toInt Z.toInt MX.toInt MY.toInt) = false from decide_eq_false (by have h9 := Int64.le_iff_toInt_le.mp ((lg_cmp_le _ _).mp c104); rw [eL] at h9; exact Int.not_lt.mpr h9)]; rfl)) rfl (by decide)
  · by_cases hb : V.toInt * Z.toInt ≤ MY.toInt
    · rw [if_neg (fun h9 => ha (h9.mpr hb)), if_neg ha]
      refine go_lload_n (q := 1) (gDec iX11_crosses_ok 0 rfl) rfl rfl rfl ?_
      refine go_lload (q := 3) (gDec iX11_crosses_ok 1 rfl) rfl rfl ?_
      refine go_lmul (q := 4) (gDec iX11_crosses_ok 2 rfl) rfl ?_
      refine go_lload (q := 6) (gDec iX11_crosses_ok 3 rfl) rfl rfl ?_
      refine go_lcmp (q := 7) (gDec iX11_crosses_ok 4 rfl) rfl ?_
      refine go_if_gt (t := 25) (q := 10) (gDec iX11_crosses_ok 5 rfl) (by decide) rfl (fun c7 => ?_) (fun c7 => False.elim (c7 (lg_gtY (by rw [eY]; omega))))
      refine go_iconst (v := 0) (q := 26) (gDec iX11_crosses_ok 14 rfl) (by decide) rfl ?_
      refine go_istore (q := 28) (gDec iX11_crosses_ok 15 rfl) (by decide) rfl ?_
      refine go_lload (q := 30) (gDec iX11_crosses_ok 16 rfl) rfl rfl ?_
      refine go_lload (q := 32) (gDec iX11_crosses_ok 17 rfl) rfl rfl ?_
      refine go_lmul (q := 33) (gDec iX11_crosses_ok 18 rfl) rfl ?_
      refine go_lload (q := 35) (gDec iX11_crosses_ok 19 rfl) rfl rfl ?_
      refine go_lcmp (q := 36) (gDec iX11_crosses_ok 20 rfl) rfl ?_
      refine go_if_gt (t := 53) (q := 39) (gDec iX11_crosses_ok 21 rfl) (by decide) rfl (fun c36 => False.elim (lg_gtN (by rw [eV]; omega) c36)) (fun c36 => ?_)
      refine go_lload (q := 41) (gDec iX11_crosses_ok 22 rfl) rfl rfl ?_
      refine go_lload_n (q := 42) (gDec iX11_crosses_ok 23 rfl) rfl rfl rfl ?_
      refine go_lload (q := 44) (gDec iX11_crosses_ok 24 rfl) rfl rfl ?_
      refine go_lmul (q := 45) (gDec iX11_crosses_ok 25 rfl) rfl ?_
      refine go_lcmp (q := 46) (gDec iX11_crosses_ok 26 rfl) rfl ?_
      refine go_if_ge (t := 53) (q := 49) (gDec iX11_crosses_ok 27 rfl) (by decide) rfl (fun c46 => False.elim (lg_geN (by rw [eY]; omega) c46)) (fun c46 => ?_)
      refine go_iconst (v := 1) (q := 50) (gDec iX11_crosses_ok 28 rfl) (by decide) rfl ?_
      refine go_goto (t := 54) (gDec iX11_crosses_ok 29 rfl) (by decide) ?_
      refine go_istore (q := 56) (gDec iX11_crosses_ok 31 rfl) (by decide) rfl ?_
      refine go_iload (q := 58) (gDec iX11_crosses_ok 32 rfl) rfl rfl ?_
      refine go_if_ne (t := 68) (q := 61) (gDec iX11_crosses_ok 33 rfl) (by decide) rfl (fun c58 => False.elim (c58 rfl)) (fun c58 => ?_)
      refine go_iload (q := 63) (gDec iX11_crosses_ok 34 rfl) rfl rfl ?_
      refine go_if_ne (t := 68) (q := 66) (gDec iX11_crosses_ok 35 rfl) (by decide) rfl (fun c63 => ?_) (fun c63 => False.elim (absurd c63 (by decide)))
      refine go_lload (q := 70) (gDec iX11_crosses_ok 38 rfl) rfl rfl ?_
      refine go_lload_n (q := 71) (gDec iX11_crosses_ok 39 rfl) rfl rfl rfl ?_
      refine go_lmul (q := 72) (gDec iX11_crosses_ok 40 rfl) rfl ?_
      refine go_lload (q := 74) (gDec iX11_crosses_ok 41 rfl) rfl rfl ?_
      refine go_lsub (q := 75) (gDec iX11_crosses_ok 42 rfl) rfl ?_
      refine go_lload (q := 77) (gDec iX11_crosses_ok 43 rfl) rfl rfl ?_
      refine go_lload_n (q := 78) (gDec iX11_crosses_ok 44 rfl) rfl rfl rfl ?_
      refine go_lsub (q := 79) (gDec iX11_crosses_ok 45 rfl) rfl ?_
      refine go_lmul (q := 80) (gDec iX11_crosses_ok 46 rfl) rfl ?_
      refine go_lload (q := 82) (gDec iX11_crosses_ok 47 rfl) rfl rfl ?_
      refine go_lload (q := 84) (gDec iX11_crosses_ok 48 rfl) rfl rfl ?_
      refine go_lload_n (q := 85) (gDec iX11_crosses_ok 49 rfl) rfl rfl rfl ?_
      refine go_lmul (q := 86) (gDec iX11_crosses_ok 50 rfl) rfl ?_
      refine go_lsub (q := 87) (gDec iX11_crosses_ok 51 rfl) rfl ?_
      refine go_lload (q := 89) (gDec iX11_crosses_ok 52 rfl) rfl rfl ?_
      refine go_lload_n (q := 90) (gDec iX11_crosses_ok 53 rfl) rfl rfl rfl ?_
      refine go_lsub (q := 91) (gDec iX11_crosses_ok 54 rfl) rfl ?_
      refine go_lmul (q := 92) (gDec iX11_crosses_ok 55 rfl) rfl ?_
      refine go_ladd (q := 93) (gDec iX11_crosses_ok 56 rfl) rfl ?_
      refine go_lstore (q := 95) (gDec iX11_crosses_ok 57 rfl) (by decide) rfl ?_
      refine go_iload (q := 97) (gDec iX11_crosses_ok 58 rfl) rfl rfl ?_
      refine go_if_eq (t := 115) (q := 100) (gDec iX11_crosses_ok 59 rfl) (by decide) rfl (fun c97 => ?_) (fun c97 => False.elim (c97 rfl))
      refine go_lload (q := 117) (gDec iX11_crosses_ok 68 rfl) rfl rfl ?_
      refine go_lconst (v := 0) (q := 118) (gDec iX11_crosses_ok 69 rfl) (by decide) rfl ?_
      refine go_lcmp (q := 119) (gDec iX11_crosses_ok 70 rfl) rfl ?_
      refine go_if_ge (t := 126) (q := 122) (gDec iX11_crosses_ok 71 rfl) (by decide) rfl (fun c119 => ?_) (fun c119 => ?_)
      · refine go_iconst (v := 0) (q := 127) (gDec iX11_crosses_ok 74 rfl) (by decide) rfl ?_
        exact go_ireturn (gDec iX11_crosses_ok 75 rfl) rfl rfl (by first | (rw [show decide (gLf X.toInt Y.toInt U.toInt V.toInt Z.toInt MX.toInt MY.toInt < 0) = true from decide_eq_true (by have h9 := Int64.lt_iff_toInt_lt.mp (Int64.not_le.mp (fun h8 => c119 ((lg_cmp_ge _ _).mpr h8))); rw [eL] at h9; exact h9)]; rfl) | (rw [show decide (gLf X.toInt Y.toInt U.toInt V.toInt Z.toInt MX.toInt MY.toInt < 0) = false from decide_eq_false (by have h9 := Int64.le_iff_toInt_le.mp ((lg_cmp_ge _ _).mp c119); rw [eL] at h9; exact Int.not_lt.mpr h9)]; rfl)) rfl (by decide)
      · refine go_iconst (v := 1) (q := 123) (gDec iX11_crosses_ok 72 rfl) (by decide) rfl ?_
        refine go_goto (t := 127) (gDec iX11_crosses_ok 73 rfl) (by decide) ?_
        exact go_ireturn (gDec iX11_crosses_ok 75 rfl) rfl rfl (by first | (rw [show decide (gLf X.toInt Y.toInt U.toInt V.toInt Z.toInt MX.toInt MY.toInt < 0) = true from decide_eq_true (by have h9 := Int64.lt_iff_toInt_lt.mp (Int64.not_le.mp (fun h8 => c119 ((lg_cmp_ge _ _).mpr h8))); rw [eL] at h9; exact h9)]; rfl) | (rw [show decide (gLf X.toInt Y.toInt U.toInt V.toInt Z.toInt MX.toInt MY.toInt < 0) = false from decide_eq_false (by have h9 := Int64.le_iff_toInt_le.mp ((lg_cmp_ge _ _).mp c119); rw [eL] at h9; exact Int.not_lt.mpr h9)]; rfl)) rfl (by decide)
    · rw [if_pos (iff_of_false ha hb)]
      refine go_lload_n (q := 1) (gDec iX11_crosses_ok 0 rfl) rfl rfl rfl ?_
      refine go_lload (q := 3) (gDec iX11_crosses_ok 1 rfl) rfl rfl ?_
      refine go_lmul (q := 4) (gDec iX11_crosses_ok 2 rfl) rfl ?_
      refine go_lload (q := 6) (gDec iX11_crosses_ok 3 rfl) rfl rfl ?_
      refine go_lcmp (q := 7) (gDec iX11_crosses_ok 4 rfl) rfl ?_
      refine go_if_gt (t := 25) (q := 10) (gDec iX11_crosses_ok 5 rfl) (by decide) rfl (fun c7 => ?_) (fun c7 => False.elim (c7 (lg_gtY (by rw [eY]; omega))))
      refine go_iconst (v := 0) (q := 26) (gDec iX11_crosses_ok 14 rfl) (by decide) rfl ?_
      refine go_istore (q := 28) (gDec iX11_crosses_ok 15 rfl) (by decide) rfl ?_
      refine go_lload (q := 30) (gDec iX11_crosses_ok 16 rfl) rfl rfl ?_
      refine go_lload (q := 32) (gDec iX11_crosses_ok 17 rfl) rfl rfl ?_
      refine go_lmul (q := 33) (gDec iX11_crosses_ok 18 rfl) rfl ?_
      refine go_lload (q := 35) (gDec iX11_crosses_ok 19 rfl) rfl rfl ?_
      refine go_lcmp (q := 36) (gDec iX11_crosses_ok 20 rfl) rfl ?_
      refine go_if_gt (t := 53) (q := 39) (gDec iX11_crosses_ok 21 rfl) (by decide) rfl (fun c36 => ?_) (fun c36 => False.elim (c36 (lg_gtY (by rw [eV]; omega))))
      refine go_iconst (v := 0) (q := 54) (gDec iX11_crosses_ok 30 rfl) (by decide) rfl ?_
      refine go_istore (q := 56) (gDec iX11_crosses_ok 31 rfl) (by decide) rfl ?_
      refine go_iload (q := 58) (gDec iX11_crosses_ok 32 rfl) rfl rfl ?_
      refine go_if_ne (t := 68) (q := 61) (gDec iX11_crosses_ok 33 rfl) (by decide) rfl (fun c58 => False.elim (c58 rfl)) (fun c58 => ?_)
      refine go_iload (q := 63) (gDec iX11_crosses_ok 34 rfl) rfl rfl ?_
      refine go_if_ne (t := 68) (q := 66) (gDec iX11_crosses_ok 35 rfl) (by decide) rfl (fun c63 => False.elim (c63 rfl)) (fun c63 => ?_)
      refine go_iconst (v := 0) (q := 67) (gDec iX11_crosses_ok 36 rfl) (by decide) rfl ?_
      exact go_ireturn (gDec iX11_crosses_ok 37 rfl) rfl rfl rfl rfl (by decide)

/-- whether the middle of column col lies before the side from b to d -/
def gE1 (τ : gST) (z r col : Int32) (b d : Nat) : Bool := if (gYa τ b z r ≤ 0 ↔ gYa τ d z r ≤ 0) then false else if gYa τ b z r < gYa τ d z r
  then gEb (gXa τ b z) (gYa τ b z r) (gXa τ d z) (gYa τ d z r) col else gEb (gXa τ d z) (gYa τ d z r) (gXa τ b z) (gYa τ b z r) col
theorem gEb_Z {lx ly hx hy c : Int32} {mx : Int} (hm : ((2 * c + 1) * 500).toInt = mx) (h1 : lx.toInt.natAbs ≤ 72000) (h2 : hx.toInt.natAbs ≤ 72000) (h3 : ly.toInt.natAbs ≤ 172500) (h4 : hy.toInt.natAbs ≤ 172500) (h5 : mx.natAbs ≤ 100500) :
    gEb lx ly hx hy c = decide ((hx.toInt - mx) * ly.toInt < (lx.toInt - mx) * hy.toInt) := by
  unfold gEb
  have s1 : (lx - (2 * c + 1) * 500).toInt = lx.toInt - mx := by rw [← hm]; exact i_subB (by omega)
  have s2 : (hx - (2 * c + 1) * 500).toInt = hx.toInt - mx := by rw [← hm]; exact i_subB (by omega)
  obtain ⟨e1, b1⟩ := l_mulB (x := (lx - (2 * c + 1) * 500).toInt64) (z := hy.toInt64) (a := 172500) (b := 172500) (by rw [i2l_toInt]; omega) (by rw [i2l_toInt]; omega) (by decide)
  obtain ⟨e2, b2⟩ := l_mulB (x := (hx - (2 * c + 1) * 500).toInt64) (z := ly.toInt64) (a := 172500) (b := 172500) (by rw [i2l_toInt]; omega) (by rw [i2l_toInt]; omega) (by decide)
  rw [i2l_toInt, i2l_toInt, s1] at e1
  rw [i2l_toInt, i2l_toInt, s2] at e2
  have h9 : (¬ lg_cmp ((lx - (2 * c + 1) * 500).toInt64 * hy.toInt64) ((hx - (2 * c + 1) * 500).toInt64 * ly.toInt64) ≤ 0) ↔ (hx.toInt - mx) * ly.toInt < (lx.toInt - mx) * hy.toInt := by
    rw [lg_cmp_le, Int64.not_le, Int64.lt_iff_toInt_lt, e1, e2]
  exact decide_eq_decide.mpr h9
theorem gLf_z {x y u v z mx my : Int} : z * gLf x y u v z mx my = (x * z - mx) * (v * z - my) - (u * z - mx) * (y * z - my) := by
  unfold gLf
  grind
theorem gMid {c : Int32} (h : -100 ≤ c.toInt ∧ c.toInt ≤ 100) : ((2 * c + 1) * 500).toInt = 500 * (2 * c.toInt + 1) ∧ (2 * c + 1).toInt = 2 * c.toInt + 1 := by
  have h2 : ((2 : Int32)).toInt = 2 := by decide
  have h1 : ((1 : Int32)).toInt = 1 := by decide
  have h5 : ((500 : Int32)).toInt = 500 := by decide
  obtain ⟨e1, b1⟩ := i_mulB (x := 2) (z := c) (a := 2) (b := 100) (by rw [h2]; decide) (by omega) (by decide)
  have e2 : (2 * c + 1).toInt = 2 * c.toInt + 1 := by rw [i_addB (by rw [e1, h2, h1]; omega), e1, h2, h1]
  obtain ⟨e3, b3⟩ := i_mulB (x := 2 * c + 1) (z := 500) (a := 201) (b := 500) (by omega) (by rw [h5]; decide) (by decide)
  rw [e2, h5] at e3
  exact ⟨by omega, e2⟩
theorem gE1_Z {τ : gST} {z r col : Int32} {b d : Nat} (h1 : gCo1 (τ.1 10 b).toInt) (h2 : gCo1 (τ.1 12 b).toInt) (h3 : gCo1 (τ.1 10 d).toInt) (h4 : gCo1 (τ.1 12 d).toInt) (hz : 6 ≤ z.toInt ∧ z.toInt ≤ 60) (hr : -100 ≤ r.toInt ∧ r.toInt ≤ 100) (hc : -100 ≤ col.toInt ∧ col.toInt ≤ 100) :
    gE1 τ z ((2 * r + 1) * 500) col b d = gCrZ (τ.1 10 b).toInt (τ.1 12 b).toInt (τ.1 10 d).toInt (τ.1 12 d).toInt z.toInt (500 * (2 * col.toInt + 1)) (500 * (2 * r.toInt + 1)) := by
  have m1 := (gMid hr).1
  have m2 := (gMid hc).1
  obtain ⟨a1, b1⟩ := i_mulB (x := τ.1 10 b) (z := z) (a := 1200) (b := 60) (by omega) (by omega) (by decide)
  obtain ⟨a2, b2⟩ := i_mulB (x := τ.1 12 b) (z := z) (a := 1200) (b := 60) (by omega) (by omega) (by decide)
  obtain ⟨a3, b3⟩ := i_mulB (x := τ.1 10 d) (z := z) (a := 1200) (b := 60) (by omega) (by omega) (by decide)
  obtain ⟨a4, b4⟩ := i_mulB (x := τ.1 12 d) (z := z) (a := 1200) (b := 60) (by omega) (by omega) (by decide)
  have yb : (gYa τ b z ((2 * r + 1) * 500)).toInt = (τ.1 12 b).toInt * z.toInt - 500 * (2 * r.toInt + 1) := by
    unfold gYa
    rw [i_subB (by rw [a2, m1]; omega), a2, m1]
  have yd : (gYa τ d z ((2 * r + 1) * 500)).toInt = (τ.1 12 d).toInt * z.toInt - 500 * (2 * r.toInt + 1) := by
    unfold gYa
    rw [i_subB (by rw [a4, m1]; omega), a4, m1]
  have z0 : ((0 : Int32)).toInt = 0 := by decide
  unfold gE1 gCrZ
  have p1 : gYa τ b z ((2 * r + 1) * 500) ≤ 0 ↔ (τ.1 12 b).toInt * z.toInt ≤ 500 * (2 * r.toInt + 1) := by rw [Int32.le_iff_toInt_le, yb, z0]; omega
  have p2 : gYa τ d z ((2 * r + 1) * 500) ≤ 0 ↔ (τ.1 12 d).toInt * z.toInt ≤ 500 * (2 * r.toInt + 1) := by rw [Int32.le_iff_toInt_le, yd, z0]; omega
  have p3 : gYa τ b z ((2 * r + 1) * 500) < gYa τ d z ((2 * r + 1) * 500) ↔ (τ.1 12 b).toInt * z.toInt < (τ.1 12 d).toInt * z.toInt := by rw [Int32.lt_iff_toInt_lt, yb, yd]; omega
  have hx := gLf_z (x := (τ.1 10 b).toInt) (y := (τ.1 12 b).toInt) (u := (τ.1 10 d).toInt) (v := (τ.1 12 d).toInt) (z := z.toInt) (mx := 500 * (2 * col.toInt + 1)) (my := 500 * (2 * r.toInt + 1))
  by_cases hq : ((τ.1 12 b).toInt * z.toInt ≤ 500 * (2 * r.toInt + 1) ↔ (τ.1 12 d).toInt * z.toInt ≤ 500 * (2 * r.toInt + 1))
  · rw [if_pos (by rw [p1, p2]; exact hq), if_pos hq]
  · rw [if_neg (by rw [p1, p2]; exact hq), if_neg hq]
    have hpos : ∀ L : Int, (0 < L ↔ 0 < z.toInt * L) ∧ (L < 0 ↔ z.toInt * L < 0) := by
      intro L
      have hz0 : 0 < z.toInt := by omega
      refine ⟨⟨fun h => Int.mul_pos hz0 h, fun h => ?_⟩, ⟨fun h => Int.mul_neg_of_pos_of_neg hz0 h, fun h => ?_⟩⟩
      · by_cases h2 : 0 < L
        · exact h2
        · have h3 := Int.mul_nonneg (show 0 ≤ z.toInt by omega) (show 0 ≤ -L by omega)
          rw [Int.mul_neg] at h3
          omega
      · by_cases h2 : L < 0
        · exact h2
        · have := Int.mul_nonneg (show 0 ≤ z.toInt by omega) (show 0 ≤ L by omega)
          omega
    by_cases hl : (τ.1 12 b).toInt * z.toInt ≤ 500 * (2 * r.toInt + 1)
    · rw [if_pos (p3.mpr (by have : ¬ (τ.1 12 d).toInt * z.toInt ≤ 500 * (2 * r.toInt + 1) := fun h => hq (iff_of_true hl h); omega)), if_pos hl,
        gEb_Z m2 (by unfold gXa; omega) (by unfold gXa; omega) (by omega) (by omega) (by omega)]
      unfold gXa
      rw [a1, a3, yb, yd]
      exact decide_eq_decide.mpr (by rw [(hpos _).1, hx]; omega)
    · have hl2 : (τ.1 12 d).toInt * z.toInt ≤ 500 * (2 * r.toInt + 1) := Classical.not_not.mp (fun h => hq (iff_of_false hl h))
      rw [if_neg (fun h => by have := p3.mp h; omega), if_neg hl, gEb_Z m2 (by unfold gXa; omega) (by unfold gXa; omega) (by omega) (by omega) (by omega)]
      unfold gXa
      rw [a1, a3, yb, yd]
      exact decide_eq_decide.mpr (by rw [(hpos _).2, hx]; omega)
def gXrP (τ : gST) (z r col : Int32) (g c p : Nat) (a : Bool) : Bool := Bool.xor a (gE1 τ z r col ((g * 3 + c) * 12 + p) ((g * 3 + c) * 12 + gNx (gNp τ g c) p))
def gXrC (τ : gST) (z r col : Int32) (g c : Nat) (a : Bool) : Bool := gLoop (gXrP τ z r col g c) 0 (gNp τ g c) a
def gXr (τ : gST) (z r col : Int32) (g : Nat) : Bool := gLoop (gXrC τ z r col g) 0 (gNc τ g) false

theorem bI_xor (a b : Bool) : bI a ^^^ bI b = bI (Bool.xor a b) := by cases a <;> cases b <;> decide +kernel
set_option maxHeartbeats 4000000 in
set_option maxRecDepth 100000 in
theorem lpX11_black2 {κ : gK} {Z : gZ} {σ : gST} {τ : gST}  {g : Nat} {z k r : Int32} (hC : gCI τ) (hM : gMR τ (σ.1 377)) (hg : g < gNg τ) (hz : 6 ≤ z.toInt ∧ z.toInt ≤ 60) (hk : -100 ≤ k.toInt ∧ k.toInt ≤ 100) (hr : -100 ≤ r.toInt ∧ r.toInt ≤ 100) {c : Nat} (hc : c < gNc τ g) : ∀ (m i : Nat) (a : Bool), i + m = (gNp τ g c) → Go κ mX11_black (gRm 2 0) Z 136 [(0, .ref (κ.2.1 + 376)), (1, .int (nI g)), (2, .int z), (3, .int k), (4, .int r), (5, .int (bI (gLoop (gXrP τ z ((2 * r + 1) * 500) k g c) i m a))), (6, .int (nI c)), (7, .int (nI (gNp τ g c))), (8, .int (nI (gNp τ g c)))] [] σ 0 → Go κ mX11_black (gRm 2 0) Z 31 [(0, .ref (κ.2.1 + 376)), (1, .int (nI g)), (2, .int z), (3, .int k), (4, .int r), (5, .int (bI a)), (6, .int (nI c)), (7, .int (nI (gNp τ g c))), (8, .int (nI i))] [] σ 0 := by
  have hW := hC.dw
  have h24 := hW.ng24
  have h3 := hW.nc3 (g := g) (by omega)
  have h12 := hW.np12 (g := g) (c := c) (by omega) (by omega)
  intro m
  induction m with
  | zero =>
    intro i a hi h
    have hiN : (gNp τ g c) = i := by omega
    subst hiN
    refine go_iload (q := 33) (gDec iX11_black_ok 19 rfl) rfl rfl ?_
    refine go_iload (q := 35) (gDec iX11_black_ok 20 rfl) rfl rfl ?_
    refine go_icmp_ge (t := 136) (q := 38) (gDec iX11_black_ok 21 rfl) (by decide) rfl (fun c35 => ?_) (fun c35 => False.elim (c35 (Int32.le_refl _)))
    refine go_sub (L' := [(0, .ref (κ.2.1 + 376)), (1, .int (nI g)), (2, .int z), (3, .int k), (4, .int r), (5, .int (bI a)), (6, .int (nI c)), (7, .int (nI (gNp τ g c))), (8, .int (nI (gNp τ g c)))]) ⟨rfl, rfl, rfl, rfl, rfl, rfl, rfl, rfl, rfl, trivial⟩ ?_
    exact h
  | succ m ih =>
    intro i a hi h
    have hnx : gNx (gNp τ g c) i < gNp τ g c := gNx_lt (by omega)
    obtain ⟨q1, q2⟩ := hC.po.2 g c i hg hc (by omega)
    obtain ⟨q3, q4⟩ := hC.po.2 g c (gNx (gNp τ g c) i) hg hc hnx
    have w1 : (500 * (2 * k + 1).toInt64 : Int64).toInt = 500 * (2 * k.toInt + 1) := by
      have e := (l_mulB (x := 500) (z := (2 * k + 1).toInt64) (a := 500) (b := 201) (by decide) (by rw [i2l_toInt, (gMid hk).2]; omega) (by decide)).1
      rw [e, i2l_toInt, (gMid hk).2]
      rfl
    have w2 : (500 * (2 * r + 1).toInt64 : Int64).toInt = 500 * (2 * r.toInt + 1) := by
      have e := (l_mulB (x := 500) (z := (2 * r + 1).toInt64) (a := 500) (b := 201) (by decide) (by rw [i2l_toInt, (gMid hr).2]; omega) (by decide)).1
      rw [e, i2l_toInt, (gMid hr).2]
      rfl
    refine go_iload (q := 33) (gDec iX11_black_ok 19 rfl) rfl rfl ?_
    refine go_iload (q := 35) (gDec iX11_black_ok 20 rfl) rfl rfl ?_
    refine go_icmp_ge (t := 136) (q := 38) (gDec iX11_black_ok 21 rfl) (by decide) rfl (fun c35 => False.elim (nI_ge (a := i) (b := (gNp τ g c)) (by omega) (by omega) c35)) (fun c35 => ?_)
    refine go_iload_n (q := 39) (gDec iX11_black_ok 22 rfl) rfl rfl rfl ?_
    refine go_iload (q := 41) (gDec iX11_black_ok 23 rfl) rfl rfl ?_
    refine go_iload (q := 43) (gDec iX11_black_ok 24 rfl) rfl rfl ?_
    refine go_callS (n2 := 0) (q := 46) kX11_95 (ctX11_pointAt (g := g) (c := c) (p := i)) (gDec iX11_black_ok 25 rfl) rfl rfl (Nat.le_of_ble_eq_true rfl) rfl (gFit_rm (by decide) (by decide)) rfl ?_
    refine go_istore (q := 48) (gDec iX11_black_ok 26 rfl) (by decide) rfl ?_
    refine go_iload_n (q := 49) (gDec iX11_black_ok 27 rfl) rfl rfl rfl ?_
    refine go_iload (q := 51) (gDec iX11_black_ok 28 rfl) rfl rfl ?_
    refine go_iload (q := 53) (gDec iX11_black_ok 29 rfl) rfl rfl ?_
    refine go_iconst (v := nI 1) (q := 54) (gDec iX11_black_ok 30 rfl) (by decide) rfl ?_
    refine go_iaddN (c := i + 1) (q := 55) (gDec iX11_black_ok 31 rfl) rfl rfl ?_
    refine go_iload (q := 57) (gDec iX11_black_ok 32 rfl) rfl rfl ?_
    refine go_irem (q := 58) (gDec iX11_black_ok 33 rfl) (nI_ne0 (by omega) (by omega)) rfl ?_
    refine go_top (v' := nI (gNx (gNp τ g c) i)) ((nI_rem (by omega) (by omega) (by omega)).trans (by rw [gNx_mod (by omega)])) ?_
    refine go_callS (n2 := 0) (q := 61) kX11_95 (ctX11_pointAt (g := g) (c := c) (p := gNx (gNp τ g c) i)) (gDec iX11_black_ok 34 rfl) rfl rfl (Nat.le_of_ble_eq_true rfl) rfl (gFit_rm (by decide) (by decide)) rfl ?_
    refine go_istore (q := 63) (gDec iX11_black_ok 35 rfl) (by decide) rfl ?_
    refine go_iload (q := 65) (gDec iX11_black_ok 36 rfl) rfl rfl ?_
    refine go_aload_n (q := 66) (gDec iX11_black_ok 37 rfl) rfl rfl rfl ?_
    refine go_getr (r' := 377) (q := 69) fX11_9 (gDec iX11_black_ok 38 rfl) rfl (by decide) rfl ?_
    refine go_iload (q := 71) (gDec iX11_black_ok 39 rfl) rfl rfl ?_
    refine go_ialdN (q := 72) (gDec iX11_black_ok 40 rfl) rfl (by decide) (by omega) (by decide) rfl ?_
    refine go_top (v' := τ.1 10 ((g * 3 + c) * 12 + i)) (hM.px hg hc (by omega) rfl) ?_
    refine go_i2l (q := 73) (gDec iX11_black_ok 41 rfl) rfl ?_
    refine go_aload_n (q := 74) (gDec iX11_black_ok 42 rfl) rfl rfl rfl ?_
    refine go_getr (r' := 377) (q := 77) fX11_9 (gDec iX11_black_ok 43 rfl) rfl (by decide) rfl ?_
    refine go_iload (q := 79) (gDec iX11_black_ok 44 rfl) rfl rfl ?_
    refine go_iconst (v := nI 1) (q := 80) (gDec iX11_black_ok 45 rfl) (by decide) rfl ?_
    refine go_iaddN (c := 196 + 96 * g + (5 + 2 * (12 * c + i)) + 1) (q := 81) (gDec iX11_black_ok 46 rfl) rfl rfl ?_
    refine go_ialdN (q := 82) (gDec iX11_black_ok 47 rfl) rfl (by decide) (by omega) (by decide) rfl ?_
    refine go_top (v' := τ.1 12 ((g * 3 + c) * 12 + i)) (hM.py hg hc (by omega) rfl) ?_
    refine go_i2l (q := 83) (gDec iX11_black_ok 48 rfl) rfl ?_
    refine go_aload_n (q := 84) (gDec iX11_black_ok 49 rfl) rfl rfl rfl ?_
    refine go_getr (r' := 377) (q := 87) fX11_9 (gDec iX11_black_ok 50 rfl) rfl (by decide) rfl ?_
    refine go_iload (q := 89) (gDec iX11_black_ok 51 rfl) rfl rfl ?_
    refine go_ialdN (q := 90) (gDec iX11_black_ok 52 rfl) rfl (by decide) (by omega) (by decide) rfl ?_
    refine go_top (v' := τ.1 10 ((g * 3 + c) * 12 + gNx (gNp τ g c) i)) (hM.px hg hc hnx rfl) ?_
    refine go_i2l (q := 91) (gDec iX11_black_ok 53 rfl) rfl ?_
    refine go_aload_n (q := 92) (gDec iX11_black_ok 54 rfl) rfl rfl rfl ?_
    refine go_getr (r' := 377) (q := 95) fX11_9 (gDec iX11_black_ok 55 rfl) rfl (by decide) rfl ?_
    refine go_iload (q := 97) (gDec iX11_black_ok 56 rfl) rfl rfl ?_
    refine go_iconst (v := nI 1) (q := 98) (gDec iX11_black_ok 57 rfl) (by decide) rfl ?_
    refine go_iaddN (c := 196 + 96 * g + (5 + 2 * (12 * c + (gNx (gNp τ g c) i))) + 1) (q := 99) (gDec iX11_black_ok 58 rfl) rfl rfl ?_
    refine go_ialdN (q := 100) (gDec iX11_black_ok 59 rfl) rfl (by decide) (by omega) (by decide) rfl ?_
    refine go_top (v' := τ.1 12 ((g * 3 + c) * 12 + gNx (gNp τ g c) i)) (hM.py hg hc hnx rfl) ?_
    refine go_i2l (q := 101) (gDec iX11_black_ok 60 rfl) rfl ?_
    refine go_iload_n (q := 102) (gDec iX11_black_ok 61 rfl) rfl rfl rfl ?_
    refine go_i2l (q := 103) (gDec iX11_black_ok 62 rfl) rfl ?_
    refine go_ldc2 (q := 106) wX11_187 (gDec iX11_black_ok 63 rfl) rfl ?_
    refine go_iconst (v := 2) (q := 107) (gDec iX11_black_ok 64 rfl) (by decide) rfl ?_
    refine go_iload_n (q := 108) (gDec iX11_black_ok 65 rfl) rfl rfl rfl ?_
    refine go_imul (q := 109) (gDec iX11_black_ok 66 rfl) rfl ?_
    refine go_iconst (v := 1) (q := 110) (gDec iX11_black_ok 67 rfl) (by decide) rfl ?_
    refine go_iadd (q := 111) (gDec iX11_black_ok 68 rfl) rfl ?_
    refine go_i2l (q := 112) (gDec iX11_black_ok 69 rfl) rfl ?_
    refine go_lmul (q := 113) (gDec iX11_black_ok 70 rfl) rfl ?_
    refine go_ldc2 (q := 116) wX11_187 (gDec iX11_black_ok 71 rfl) rfl ?_
    refine go_iconst (v := 2) (q := 117) (gDec iX11_black_ok 72 rfl) (by decide) rfl ?_
    refine go_iload (q := 119) (gDec iX11_black_ok 73 rfl) rfl rfl ?_
    refine go_imul (q := 120) (gDec iX11_black_ok 74 rfl) rfl ?_
    refine go_iconst (v := 1) (q := 121) (gDec iX11_black_ok 75 rfl) (by decide) rfl ?_
    refine go_iadd (q := 122) (gDec iX11_black_ok 76 rfl) rfl ?_
    refine go_i2l (q := 123) (gDec iX11_black_ok 77 rfl) rfl ?_
    refine go_lmul (q := 124) (gDec iX11_black_ok 78 rfl) rfl ?_
    refine go_callS (n2 := 0) (q := 127) kX11_189 (ctX11_crosses (X := (τ.1 10 ((g * 3 + c) * 12 + i)).toInt64) (Y := (τ.1 12 ((g * 3 + c) * 12 + i)).toInt64) (U := (τ.1 10 ((g * 3 + c) * 12 + gNx (gNp τ g c) i)).toInt64) (V := (τ.1 12 ((g * 3 + c) * 12 + gNx (gNp τ g c) i)).toInt64) (Z := z.toInt64) (MX := 500 * (2 * k + 1).toInt64) (MY := 500 * (2 * r + 1).toInt64) (by rw [i2l_toInt]; exact q1) (by rw [i2l_toInt]; exact q2) (by rw [i2l_toInt]; exact q3) (by rw [i2l_toInt]; exact q4) (by rw [i2l_toInt]; exact hz) (by rw [w1]; omega) (by rw [w2]; omega)) (gDec iX11_black_ok 79 rfl) rfl rfl (Nat.le_of_ble_eq_true rfl) rfl (gFit_rm (by decide) (by decide)) rfl ?_
    refine go_top (v' := bI (gE1 τ z ((2 * r + 1) * 500) k ((g * 3 + c) * 12 + i) ((g * 3 + c) * 12 + gNx (gNp τ g c) i))) (by rw [gE1_Z q1 q2 q3 q4 hz hr hk, i2l_toInt, i2l_toInt, i2l_toInt, i2l_toInt, i2l_toInt, w1, w2]) ?_
    refine go_ixor (q := 128) (gDec iX11_black_ok 80 rfl) rfl ?_
    refine go_top (v' := bI (gXrP τ z ((2 * r + 1) * 500) k g c i a)) (bI_xor _ _) ?_
    refine go_istore (q := 130) (gDec iX11_black_ok 81 rfl) (by decide) rfl ?_
    refine go_iinc (v := nI (i + 1)) (q := 133) (gDec iX11_black_ok 82 rfl) rfl (nI_1 _) (by decide) rfl ?_
    refine go_goto (t := 31) (gDec iX11_black_ok 83 rfl) (by decide) ?_
    refine go_sub (L' := [(0, .ref (κ.2.1 + 376)), (1, .int (nI g)), (2, .int z), (3, .int k), (4, .int r), (5, .int (bI ((gXrP τ z ((2 * r + 1) * 500) k g c) i a))), (6, .int (nI c)), (7, .int (nI (gNp τ g c))), (8, .int (nI (i + 1)))]) ⟨rfl, rfl, rfl, rfl, rfl, rfl, rfl, rfl, rfl, trivial⟩ ?_
    exact ih (i + 1) ((gXrP τ z ((2 * r + 1) * 500) k g c) i a) (by omega) h

set_option maxHeartbeats 4000000 in
set_option maxRecDepth 100000 in
theorem lpX11_black1 {κ : gK} {Z : gZ} {σ : gST} {τ : gST}  {g : Nat} {z k r : Int32} (hC : gCI τ) (hM : gMR τ (σ.1 377)) (hg : g < gNg τ) (hz : 6 ≤ z.toInt ∧ z.toInt ≤ 60) (hk : -100 ≤ k.toInt ∧ k.toInt ≤ 100) (hr : -100 ≤ r.toInt ∧ r.toInt ≤ 100) : ∀ (m i : Nat) (a : Bool), i + m = (gNc τ g) → Go κ mX11_black (gRm 2 0) Z 142 [(0, .ref (κ.2.1 + 376)), (1, .int (nI g)), (2, .int z), (3, .int k), (4, .int r), (5, .int (bI (gLoop (gXrC τ z ((2 * r + 1) * 500) k g) i m a))), (6, .int (nI (gNc τ g)))] [] σ 0 → Go κ mX11_black (gRm 2 0) Z 6 [(0, .ref (κ.2.1 + 376)), (1, .int (nI g)), (2, .int z), (3, .int k), (4, .int r), (5, .int (bI a)), (6, .int (nI i))] [] σ 0 := by
  have hW := hC.dw
  have h24 := hW.ng24
  have h3 := hW.nc3 (g := g) (by omega)
  intro m
  induction m with
  | zero =>
    intro i a hi h
    have hiN : (gNc τ g) = i := by omega
    rw [hiN] at h
    refine go_iload (q := 8) (gDec iX11_black_ok 4 rfl) rfl rfl ?_
    refine go_aload_n (q := 9) (gDec iX11_black_ok 5 rfl) rfl rfl rfl ?_
    refine go_iload_n (q := 10) (gDec iX11_black_ok 6 rfl) rfl rfl rfl ?_
    refine go_iconst (v := nI 1) (q := 11) (gDec iX11_black_ok 7 rfl) (by decide) rfl ?_
    refine go_callV (n2 := 0) (q := 14) kX11_69 (ctX11_of (g := g) (w := 1) (by omega)) (gDec iX11_black_ok 8 rfl) rfl rfl (by decide) rfl rfl rfl (Nat.le_of_ble_eq_true rfl) rfl (gFit_rm (by decide) (by decide)) rfl ?_
    refine go_top (v' := nI (gNc τ g)) (hM.nc hW hg rfl) ?_
    refine go_icmp_ge (t := 142) (q := 17) (gDec iX11_black_ok 9 rfl) (by decide) rfl (fun c14 => ?_) (fun c14 => False.elim (c14 (nI_le (a := (gNc τ g)) (b := i) (by omega) (by omega))))
    refine go_sub (L' := [(0, .ref (κ.2.1 + 376)), (1, .int (nI g)), (2, .int z), (3, .int k), (4, .int r), (5, .int (bI a)), (6, .int (nI i))]) ⟨rfl, rfl, rfl, rfl, rfl, rfl, rfl, trivial⟩ ?_
    exact h
  | succ m ih =>
    intro i a hi h
    refine go_iload (q := 8) (gDec iX11_black_ok 4 rfl) rfl rfl ?_
    refine go_aload_n (q := 9) (gDec iX11_black_ok 5 rfl) rfl rfl rfl ?_
    refine go_iload_n (q := 10) (gDec iX11_black_ok 6 rfl) rfl rfl rfl ?_
    refine go_iconst (v := nI 1) (q := 11) (gDec iX11_black_ok 7 rfl) (by decide) rfl ?_
    refine go_callV (n2 := 0) (q := 14) kX11_69 (ctX11_of (g := g) (w := 1) (by omega)) (gDec iX11_black_ok 8 rfl) rfl rfl (by decide) rfl rfl rfl (Nat.le_of_ble_eq_true rfl) rfl (gFit_rm (by decide) (by decide)) rfl ?_
    refine go_top (v' := nI (gNc τ g)) (hM.nc hW hg rfl) ?_
    refine go_icmp_ge (t := 142) (q := 17) (gDec iX11_black_ok 9 rfl) (by decide) rfl (fun c14 => False.elim (nI_ge (a := i) (b := (gNc τ g)) (by omega) (by omega) c14)) (fun c14 => ?_)
    refine go_aload_n (q := 18) (gDec iX11_black_ok 10 rfl) rfl rfl rfl ?_
    refine go_iload_n (q := 19) (gDec iX11_black_ok 11 rfl) rfl rfl rfl ?_
    refine go_iconst (v := nI 2) (q := 20) (gDec iX11_black_ok 12 rfl) (by decide) rfl ?_
    refine go_iload (q := 22) (gDec iX11_black_ok 13 rfl) rfl rfl ?_
    refine go_iaddN (c := 2 + i) (q := 23) (gDec iX11_black_ok 14 rfl) rfl rfl ?_
    refine go_callV (n2 := 0) (q := 26) kX11_69 (ctX11_of (g := g) (w := 2 + i) (by omega)) (gDec iX11_black_ok 15 rfl) rfl rfl (by decide) rfl rfl rfl (Nat.le_of_ble_eq_true rfl) rfl (gFit_rm (by decide) (by decide)) rfl ?_
    refine go_top (v' := nI (gNp τ g i)) (hM.np hW hg (by omega) rfl) ?_
    refine go_istore (q := 28) (gDec iX11_black_ok 16 rfl) (by decide) rfl ?_
    refine go_iconst (v := nI 0) (q := 29) (gDec iX11_black_ok 17 rfl) (by decide) rfl ?_
    refine go_istore (q := 31) (gDec iX11_black_ok 18 rfl) (by decide) rfl ?_
    refine go_sub (L' := [(0, .ref (κ.2.1 + 376)), (1, .int (nI g)), (2, .int z), (3, .int k), (4, .int r), (5, .int (bI a)), (6, .int (nI i)), (7, .int (nI (gNp τ g i))), (8, .int (nI 0))]) ⟨rfl, rfl, rfl, rfl, rfl, rfl, rfl, rfl, rfl, trivial⟩ ?_
    refine lpX11_black2 hC hM hg hz hk hr (by omega) (gNp τ g i) 0 a (by omega) ?_
    refine go_iinc (v := nI (i + 1)) (q := 139) (gDec iX11_black_ok 84 rfl) rfl (nI_1 _) (by decide) rfl ?_
    refine go_goto (t := 6) (gDec iX11_black_ok 85 rfl) (by decide) ?_
    refine go_sub (L' := [(0, .ref (κ.2.1 + 376)), (1, .int (nI g)), (2, .int z), (3, .int k), (4, .int r), (5, .int (bI (gXrC τ z ((2 * r + 1) * 500) k g i a))), (6, .int (nI (i + 1)))]) ⟨rfl, rfl, rfl, rfl, rfl, rfl, rfl, trivial⟩ ?_
    exact ih (i + 1) (gXrC τ z ((2 * r + 1) * 500) k g i a) (by omega) h

set_option maxHeartbeats 4000000 in
set_option maxRecDepth 100000 in
theorem ctX11_black {κ : gK} {σ : gST} {τ : gST}  {g : Nat} {z k r : Int32} (hC : gCI τ) (hM : gMR τ (σ.1 377)) (hg : g < gNg τ) (hz : 6 ≤ z.toInt ∧ z.toInt ≤ 60) (hk : -100 ≤ k.toInt ∧ k.toInt ≤ 100) (hr : -100 ≤ r.toInt ∧ r.toInt ≤ 100) : gCt κ mX11_black 2 [.ref (κ.2.1 + 376), .int (nI g), .int z, .int k, .int r] σ (.inl (some (.int (bI (gXr τ z ((2 * r + 1) * 500) k g))))) σ 0 := by
  refine ct_of (by decide +kernel) rfl (Nat.le_of_ble_eq_true rfl) rfl ?_
  refine go_iconst (v := 0) (q := 1) (gDec iX11_black_ok 0 rfl) (by decide) rfl ?_
  refine go_istore (q := 3) (gDec iX11_black_ok 1 rfl) (by decide) rfl ?_
  refine go_iconst (v := nI 0) (q := 4) (gDec iX11_black_ok 2 rfl) (by decide) rfl ?_
  refine go_istore (q := 6) (gDec iX11_black_ok 3 rfl) (by decide) rfl ?_
  refine go_sub (L' := [(0, .ref (κ.2.1 + 376)), (1, .int (nI g)), (2, .int z), (3, .int k), (4, .int r), (5, .int (bI false)), (6, .int (nI 0))]) ⟨rfl, rfl, rfl, rfl, rfl, rfl, rfl, trivial⟩ ?_
  refine lpX11_black1 hC hM hg hz hk hr (gNc τ g) 0 false (by omega) ?_
  refine go_iload (q := 144) (gDec iX11_black_ok 86 rfl) rfl rfl ?_
  exact go_ireturn (gDec iX11_black_ok 87 rfl) rfl (bI_nz _) rfl rfl (by decide)
