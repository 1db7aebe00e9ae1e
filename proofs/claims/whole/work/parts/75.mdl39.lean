set_option maxHeartbeats 4000000 in
set_option maxRecDepth 100000 in
theorem lpX11_dig {κ : gK} {Z : gZ} {σ : gST} {n : Nat} {w b : Bool} {K : Nat} {rd rm : Nat → Int32} {l : Int32} (h7 : σ.1 376 7 = nI n) (h60 : n ≤ 60) : ∀ (f k p : Nat) (v : Int32), k + f = 4 → p ≤ n → Go κ mX11_coordinate (gRm 3 0) Z 137 [(0, .ref (κ.2.1 + 376)), (1, .int l), (2, .int (dNum (σ.1 380) n f p v).2)] [] (wr σ (dNum (σ.1 380) n f p v).1 w b K rd rm) 0 → Go κ mX11_coordinate (gRm 3 0) Z 92 [(0, .ref (κ.2.1 + 376)), (1, .int l), (2, .int v), (3, .int (nI k))] [] (wr σ p w b K rd rm) 0 := by
  intro f
  induction f with
  | zero =>
    intro k p v hk hp h
    have hk4 : k = 4 := by omega
    subst hk4
    refine go_iload_n (q := 93) (gDec iX11_coordinate_ok 50 rfl) rfl rfl rfl ?_
    refine go_iconst (v := nI 4) (q := 94) (gDec iX11_coordinate_ok 51 rfl) (by decide) rfl ?_
    refine go_icmp_ge (t := 137) (q := 97) (gDec iX11_coordinate_ok 52 rfl) (by decide) rfl (fun c94 => ?_) (fun c94 => False.elim (c94 (by decide)))
    refine go_sub (L' := [(0, .ref (κ.2.1 + 376)), (1, .int l), (2, .int v)]) ⟨rfl, rfl, rfl, trivial⟩ ?_
    exact h
  | succ f ih =>
    intro k p v hk hp h
    by_cases h1 : 0 < v
    · by_cases h2 : 48 ≤ (hr (σ.1 380) n p).toInt ∧ (hr (σ.1 380) n p).toInt ≤ 57
      · have h3 := dg_lt h2
        rw [show dNum (σ.1 380) n (f + 1) p v = dNum (σ.1 380) n f (p + 1) (10 * v + (hr (σ.1 380) n p) - 48) from if_pos ⟨h1, h2⟩] at h
        have ih2 := ih (k + 1) (p + 1) (10 * v + (hr (σ.1 380) n p) - 48) (by omega) (by omega) h
        refine go_iload_n (q := 93) (gDec iX11_coordinate_ok 50 rfl) rfl rfl rfl ?_
        refine go_iconst (v := nI 4) (q := 94) (gDec iX11_coordinate_ok 51 rfl) (by decide) rfl ?_
        refine go_icmp_ge (t := 137) (q := 97) (gDec iX11_coordinate_ok 52 rfl) (by decide) rfl (fun c94 => False.elim (nI_ge (a := k) (b := 4) (by omega) (by omega) c94)) (fun c94 => ?_)
        refine go_iload_n (q := 98) (gDec iX11_coordinate_ok 53 rfl) rfl rfl rfl ?_
        refine go_if_le (t := 137) (q := 101) (gDec iX11_coordinate_ok 54 rfl) (by decide) rfl (fun c98 => False.elim (absurd h1 (Int32.not_lt.mpr c98))) (fun c98 => ?_)
        refine go_aload_n (q := 102) (gDec iX11_coordinate_ok 55 rfl) rfl rfl rfl ?_
        refine go_callV (n2 := 0) (q := 105) kX11_254 (ctX11_isDigit h7 h60 hp) (gDec iX11_coordinate_ok 56 rfl) rfl rfl (by decide) rfl rfl rfl (Nat.le_of_ble_eq_true rfl) rfl (gFit_rm (by decide) (by decide)) rfl ?_
        refine go_top (v' := 1) (gWi_t h2) ?_
        refine go_if_eq (t := 137) (q := 108) (gDec iX11_coordinate_ok 57 rfl) (by decide) rfl (fun c105 => False.elim (absurd c105 (by decide))) (fun c105 => ?_)
        refine go_bipush (v := 10) (q := 110) (gDec iX11_coordinate_ok 58 rfl) (by decide) rfl ?_
        refine go_iload_n (q := 111) (gDec iX11_coordinate_ok 59 rfl) rfl rfl rfl ?_
        refine go_imul (q := 112) (gDec iX11_coordinate_ok 60 rfl) rfl ?_
        refine go_aload_n (q := 113) (gDec iX11_coordinate_ok 61 rfl) rfl rfl rfl ?_
        refine go_callV (n2 := 0) (q := 116) kX11_251 (ctX11_here h7 h60 hp) (gDec iX11_coordinate_ok 62 rfl) rfl rfl (by decide) rfl rfl rfl (Nat.le_of_ble_eq_true rfl) rfl (gFit_rm (by decide) (by decide)) rfl ?_
        refine go_iadd (q := 117) (gDec iX11_coordinate_ok 63 rfl) rfl ?_
        refine go_bipush (v := 48) (q := 119) (gDec iX11_coordinate_ok 64 rfl) (by decide) rfl ?_
        refine go_isub (q := 120) (gDec iX11_coordinate_ok 65 rfl) rfl ?_
        refine go_istore_n (q := 121) (gDec iX11_coordinate_ok 66 rfl) rfl (by decide) rfl ?_
        refine go_aload_n (q := 122) (gDec iX11_coordinate_ok 67 rfl) rfl rfl rfl ?_
        refine go_dup (q := 123) (gDec iX11_coordinate_ok 68 rfl) rfl rfl ?_
        refine go_geti (q := 126) fX11_244 (gDec iX11_coordinate_ok 69 rfl) rfl (by decide) rfl ?_
        refine go_top (v' := nI p) (rfl) ?_
        refine go_iconst (v := nI 1) (q := 127) (gDec iX11_coordinate_ok 70 rfl) (by decide) rfl ?_
        refine go_iaddN (c := p + 1) (q := 128) (gDec iX11_coordinate_ok 71 rfl) rfl rfl ?_
        refine go_puti (q := 131) fX11_244 gft11 (gDec iX11_coordinate_ok 72 rfl) rfl (by decide) rfl rfl rfl rfl ?_
        refine go_w (show _ = (wr σ (p + 1) w b K rd rm) from wr_p (p + 1)) ?_
        refine go_iinc (v := nI (k + 1)) (q := 134) (gDec iX11_coordinate_ok 73 rfl) rfl (nI_1 _) (by decide) rfl ?_
        refine go_goto (t := 92) (gDec iX11_coordinate_ok 74 rfl) (by decide) ?_
        refine go_sub (L' := [(0, .ref (κ.2.1 + 376)), (1, .int l), (2, .int (10 * v + (hr (σ.1 380) n p) - 48)), (3, .int (nI (k + 1)))]) ⟨rfl, rfl, rfl, rfl, trivial⟩ ?_
        exact ih2
      · rw [show dNum (σ.1 380) n (f + 1) p v = (p, v) from if_neg (fun h9 => h2 h9.2)] at h
        refine go_iload_n (q := 93) (gDec iX11_coordinate_ok 50 rfl) rfl rfl rfl ?_
        refine go_iconst (v := nI 4) (q := 94) (gDec iX11_coordinate_ok 51 rfl) (by decide) rfl ?_
        refine go_icmp_ge (t := 137) (q := 97) (gDec iX11_coordinate_ok 52 rfl) (by decide) rfl (fun c94 => False.elim (nI_ge (a := k) (b := 4) (by omega) (by omega) c94)) (fun c94 => ?_)
        refine go_iload_n (q := 98) (gDec iX11_coordinate_ok 53 rfl) rfl rfl rfl ?_
        refine go_if_le (t := 137) (q := 101) (gDec iX11_coordinate_ok 54 rfl) (by decide) rfl (fun c98 => False.elim (absurd h1 (Int32.not_lt.mpr c98))) (fun c98 => ?_)
        refine go_aload_n (q := 102) (gDec iX11_coordinate_ok 55 rfl) rfl rfl rfl ?_
        refine go_callV (n2 := 0) (q := 105) kX11_254 (ctX11_isDigit h7 h60 hp) (gDec iX11_coordinate_ok 56 rfl) rfl rfl (by decide) rfl rfl rfl (Nat.le_of_ble_eq_true rfl) rfl (gFit_rm (by decide) (by decide)) rfl ?_
        refine go_top (v' := 0) (gWi_f h2) ?_
        refine go_if_eq (t := 137) (q := 108) (gDec iX11_coordinate_ok 57 rfl) (by decide) rfl (fun c105 => ?_) (fun c105 => False.elim (c105 rfl))
        refine go_sub (L' := [(0, .ref (κ.2.1 + 376)), (1, .int l), (2, .int v)]) ⟨rfl, rfl, rfl, trivial⟩ ?_
        exact h
    · rw [show dNum (σ.1 380) n (f + 1) p v = (p, v) from if_neg (fun h9 => h1 h9.1)] at h
      refine go_iload_n (q := 93) (gDec iX11_coordinate_ok 50 rfl) rfl rfl rfl ?_
      refine go_iconst (v := nI 4) (q := 94) (gDec iX11_coordinate_ok 51 rfl) (by decide) rfl ?_
      refine go_icmp_ge (t := 137) (q := 97) (gDec iX11_coordinate_ok 52 rfl) (by decide) rfl (fun c94 => False.elim (nI_ge (a := k) (b := 4) (by omega) (by omega) c94)) (fun c94 => ?_)
      refine go_iload_n (q := 98) (gDec iX11_coordinate_ok 53 rfl) rfl rfl rfl ?_
      refine go_if_le (t := 137) (q := 101) (gDec iX11_coordinate_ok 54 rfl) (by decide) rfl (fun c98 => ?_) (fun c98 => False.elim (c98 (Int32.not_lt.mp h1)))
      refine go_sub (L' := [(0, .ref (κ.2.1 + 376)), (1, .int l), (2, .int v)]) ⟨rfl, rfl, rfl, trivial⟩ ?_
      exact h

set_option maxHeartbeats 4000000 in
set_option maxRecDepth 100000 in
theorem lpX11_cem {κ : gK} {σ : gST} {p : Nat} {w b : Bool} {K : Nat} {rd rm : Nat → Int32} {v : Int32} : Go κ mX11_coordinate (gRm 3 0) (gZm κ (.inl (some (.int (-v)))) (wr σ p w (if b = true ∨ ¬ (-200 ≤ (-v).toInt ∧ (-v).toInt ≤ 1200) then true else false) K rd rm) 0) 137 [(0, .ref (κ.2.1 + 376)), (1, .int 1), (2, .int v)] [] (wr σ p w b K rd rm) 0 := by
  cases b with
  | true =>
    rw [if_pos (Or.inl rfl)]
    refine go_aload_n (q := 138) (gDec iX11_coordinate_ok 75 rfl) rfl rfl rfl ?_
    refine go_aload_n (q := 139) (gDec iX11_coordinate_ok 76 rfl) rfl rfl rfl ?_
    refine go_geti (q := 142) fX11_258 (gDec iX11_coordinate_ok 77 rfl) rfl (by decide) rfl ?_
    refine go_top (v' := 1) (rfl) ?_
    refine go_if_ne (t := 163) (q := 145) (gDec iX11_coordinate_ok 78 rfl) (by decide) rfl (fun c142 => ?_) (fun c142 => False.elim (absurd c142 (by decide)))
    refine go_iconst (v := nI 1) (q := 164) (gDec iX11_coordinate_ok 89 rfl) (by decide) rfl ?_
    refine go_goto (t := 168) (gDec iX11_coordinate_ok 90 rfl) (by decide) ?_
    refine go_puti (q := 171) fX11_258 gft11 (gDec iX11_coordinate_ok 92 rfl) rfl (by decide) rfl rfl rfl rfl ?_
    refine go_w (show _ = (wr σ p w true K rd rm) from wr_b true) ?_
    refine go_iload_n (q := 172) (gDec iX11_coordinate_ok 93 rfl) rfl rfl rfl ?_
    refine go_if_eq (t := 180) (q := 175) (gDec iX11_coordinate_ok 94 rfl) (by decide) rfl (fun c172 => False.elim (absurd c172 (by decide))) (fun c172 => ?_)
    refine go_iload_n (q := 176) (gDec iX11_coordinate_ok 95 rfl) rfl rfl rfl ?_
    refine go_ineg (q := 177) (gDec iX11_coordinate_ok 96 rfl) rfl ?_
    refine go_goto (t := 181) (gDec iX11_coordinate_ok 97 rfl) (by decide) ?_
    exact go_ireturn (gDec iX11_coordinate_ok 99 rfl) rfl rfl rfl rfl (by decide)
  | false =>
    by_cases h3 : -200 ≤ (-v).toInt ∧ (-v).toInt ≤ 1200
    · rw [if_neg (fun h9 => h9.elim (fun h8 => by cases h8) (fun h8 => h8 h3))]
      refine go_aload_n (q := 138) (gDec iX11_coordinate_ok 75 rfl) rfl rfl rfl ?_
      refine go_aload_n (q := 139) (gDec iX11_coordinate_ok 76 rfl) rfl rfl rfl ?_
      refine go_geti (q := 142) fX11_258 (gDec iX11_coordinate_ok 77 rfl) rfl (by decide) rfl ?_
      refine go_top (v' := 0) (rfl) ?_
      refine go_if_ne (t := 163) (q := 145) (gDec iX11_coordinate_ok 78 rfl) (by decide) rfl (fun c142 => False.elim (c142 rfl)) (fun c142 => ?_)
      refine go_iload_n (q := 146) (gDec iX11_coordinate_ok 79 rfl) rfl rfl rfl ?_
      refine go_if_eq (t := 155) (q := 149) (gDec iX11_coordinate_ok 80 rfl) (by decide) rfl (fun c146 => False.elim (absurd c146 (by decide))) (fun c146 => ?_)
      refine go_iload_n (q := 150) (gDec iX11_coordinate_ok 81 rfl) rfl rfl rfl ?_
      refine go_ineg (q := 151) (gDec iX11_coordinate_ok 82 rfl) rfl ?_
      refine go_i2l (q := 152) (gDec iX11_coordinate_ok 83 rfl) rfl ?_
      refine go_goto (t := 157) (gDec iX11_coordinate_ok 84 rfl) (by decide) ?_
      refine go_callS (n2 := 0) (q := 160) kX11_99 ctX11_isCoordinate (gDec iX11_coordinate_ok 87 rfl) rfl rfl (Nat.le_of_ble_eq_true rfl) rfl (gFit_rm (by decide) (by decide)) rfl ?_
      refine go_top (v' := 1) (gWi_t (by rw [i2l_toInt]; exact h3)) ?_
      refine go_if_ne (t := 167) (q := 163) (gDec iX11_coordinate_ok 88 rfl) (by decide) rfl (fun c160 => ?_) (fun c160 => False.elim (absurd c160 (by decide)))
      refine go_iconst (v := nI 0) (q := 168) (gDec iX11_coordinate_ok 91 rfl) (by decide) rfl ?_
      refine go_puti (q := 171) fX11_258 gft11 (gDec iX11_coordinate_ok 92 rfl) rfl (by decide) rfl rfl rfl rfl ?_
      refine go_w (show _ = (wr σ p w false K rd rm) from wr_b false) ?_
      refine go_iload_n (q := 172) (gDec iX11_coordinate_ok 93 rfl) rfl rfl rfl ?_
      refine go_if_eq (t := 180) (q := 175) (gDec iX11_coordinate_ok 94 rfl) (by decide) rfl (fun c172 => False.elim (absurd c172 (by decide))) (fun c172 => ?_)
      refine go_iload_n (q := 176) (gDec iX11_coordinate_ok 95 rfl) rfl rfl rfl ?_
      refine go_ineg (q := 177) (gDec iX11_coordinate_ok 96 rfl) rfl ?_
      refine go_goto (t := 181) (gDec iX11_coordinate_ok 97 rfl) (by decide) ?_
      exact go_ireturn (gDec iX11_coordinate_ok 99 rfl) rfl rfl rfl rfl (by decide)
    · rw [if_pos (Or.inr h3)]
      refine go_aload_n (q := 138) (gDec iX11_coordinate_ok 75 rfl) rfl rfl rfl ?_
      refine go_aload_n (q := 139) (gDec iX11_coordinate_ok 76 rfl) rfl rfl rfl ?_
      refine go_geti (q := 142) fX11_258 (gDec iX11_coordinate_ok 77 rfl) rfl (by decide) rfl ?_
      refine go_top (v' := 0) (rfl) ?_
      refine go_if_ne (t := 163) (q := 145) (gDec iX11_coordinate_ok 78 rfl) (by decide) rfl (fun c142 => False.elim (c142 rfl)) (fun c142 => ?_)
      refine go_iload_n (q := 146) (gDec iX11_coordinate_ok 79 rfl) rfl rfl rfl ?_
      refine go_if_eq (t := 155) (q := 149) (gDec iX11_coordinate_ok 80 rfl) (by decide) rfl (fun c146 => False.elim (absurd c146 (by decide))) (fun c146 => ?_)
      refine go_iload_n (q := 150) (gDec iX11_coordinate_ok 81 rfl) rfl rfl rfl ?_
      refine go_ineg (q := 151) (gDec iX11_coordinate_ok 82 rfl) rfl ?_
      refine go_i2l (q := 152) (gDec iX11_coordinate_ok 83 rfl) rfl ?_
      refine go_goto (t := 157) (gDec iX11_coordinate_ok 84 rfl) (by decide) ?_
      refine go_callS (n2 := 0) (q := 160) kX11_99 ctX11_isCoordinate (gDec iX11_coordinate_ok 87 rfl) rfl rfl (Nat.le_of_ble_eq_true rfl) rfl (gFit_rm (by decide) (by decide)) rfl ?_
      refine go_top (v' := 0) (gWi_f (by rw [i2l_toInt]; exact h3)) ?_
      refine go_if_ne (t := 167) (q := 163) (gDec iX11_coordinate_ok 88 rfl) (by decide) rfl (fun c160 => False.elim (c160 rfl)) (fun c160 => ?_)
      refine go_iconst (v := nI 1) (q := 164) (gDec iX11_coordinate_ok 89 rfl) (by decide) rfl ?_
      refine go_goto (t := 168) (gDec iX11_coordinate_ok 90 rfl) (by decide) ?_
      refine go_puti (q := 171) fX11_258 gft11 (gDec iX11_coordinate_ok 92 rfl) rfl (by decide) rfl rfl rfl rfl ?_
      refine go_w (show _ = (wr σ p w true K rd rm) from wr_b true) ?_
      refine go_iload_n (q := 172) (gDec iX11_coordinate_ok 93 rfl) rfl rfl rfl ?_
      refine go_if_eq (t := 180) (q := 175) (gDec iX11_coordinate_ok 94 rfl) (by decide) rfl (fun c172 => False.elim (absurd c172 (by decide))) (fun c172 => ?_)
      refine go_iload_n (q := 176) (gDec iX11_coordinate_ok 95 rfl) rfl rfl rfl ?_
      refine go_ineg (q := 177) (gDec iX11_coordinate_ok 96 rfl) rfl ?_
      refine go_goto (t := 181) (gDec iX11_coordinate_ok 97 rfl) (by decide) ?_
      exact go_ireturn (gDec iX11_coordinate_ok 99 rfl) rfl rfl rfl rfl (by decide)

set_option maxHeartbeats 4000000 in
set_option maxRecDepth 100000 in
theorem lpX11_cep {κ : gK} {σ : gST} {p : Nat} {w b : Bool} {K : Nat} {rd rm : Nat → Int32} {v : Int32} : Go κ mX11_coordinate (gRm 3 0) (gZm κ (.inl (some (.int v))) (wr σ p w (if b = true ∨ ¬ (-200 ≤ v.toInt ∧ v.toInt ≤ 1200) then true else false) K rd rm) 0) 137 [(0, .ref (κ.2.1 + 376)), (1, .int 0), (2, .int v)] [] (wr σ p w b K rd rm) 0 := by
  cases b with
  | true =>
    rw [if_pos (Or.inl rfl)]
    refine go_aload_n (q := 138) (gDec iX11_coordinate_ok 75 rfl) rfl rfl rfl ?_
    refine go_aload_n (q := 139) (gDec iX11_coordinate_ok 76 rfl) rfl rfl rfl ?_
    refine go_geti (q := 142) fX11_258 (gDec iX11_coordinate_ok 77 rfl) rfl (by decide) rfl ?_
    refine go_top (v' := 1) (rfl) ?_
    refine go_if_ne (t := 163) (q := 145) (gDec iX11_coordinate_ok 78 rfl) (by decide) rfl (fun c142 => ?_) (fun c142 => False.elim (absurd c142 (by decide)))
    refine go_iconst (v := nI 1) (q := 164) (gDec iX11_coordinate_ok 89 rfl) (by decide) rfl ?_
    refine go_goto (t := 168) (gDec iX11_coordinate_ok 90 rfl) (by decide) ?_
    refine go_puti (q := 171) fX11_258 gft11 (gDec iX11_coordinate_ok 92 rfl) rfl (by decide) rfl rfl rfl rfl ?_
    refine go_w (show _ = (wr σ p w true K rd rm) from wr_b true) ?_
    refine go_iload_n (q := 172) (gDec iX11_coordinate_ok 93 rfl) rfl rfl rfl ?_
    refine go_if_eq (t := 180) (q := 175) (gDec iX11_coordinate_ok 94 rfl) (by decide) rfl (fun c172 => ?_) (fun c172 => False.elim (c172 rfl))
    refine go_iload_n (q := 181) (gDec iX11_coordinate_ok 98 rfl) rfl rfl rfl ?_
    exact go_ireturn (gDec iX11_coordinate_ok 99 rfl) rfl rfl rfl rfl (by decide)
  | false =>
    by_cases h3 : -200 ≤ v.toInt ∧ v.toInt ≤ 1200
    · rw [if_neg (fun h9 => h9.elim (fun h8 => by cases h8) (fun h8 => h8 h3))]
      refine go_aload_n (q := 138) (gDec iX11_coordinate_ok 75 rfl) rfl rfl rfl ?_
      refine go_aload_n (q := 139) (gDec iX11_coordinate_ok 76 rfl) rfl rfl rfl ?_
      refine go_geti (q := 142) fX11_258 (gDec iX11_coordinate_ok 77 rfl) rfl (by decide) rfl ?_
      refine go_top (v' := 0) (rfl) ?_
      refine go_if_ne (t := 163) (q := 145) (gDec iX11_coordinate_ok 78 rfl) (by decide) rfl (fun c142 => False.elim (c142 rfl)) (fun c142 => ?_)
      refine go_iload_n (q := 146) (gDec iX11_coordinate_ok 79 rfl) rfl rfl rfl ?_
      refine go_if_eq (t := 155) (q := 149) (gDec iX11_coordinate_ok 80 rfl) (by decide) rfl (fun c146 => ?_) (fun c146 => False.elim (c146 rfl))
      refine go_iload_n (q := 156) (gDec iX11_coordinate_ok 85 rfl) rfl rfl rfl ?_
      refine go_i2l (q := 157) (gDec iX11_coordinate_ok 86 rfl) rfl ?_
      refine go_callS (n2 := 0) (q := 160) kX11_99 ctX11_isCoordinate (gDec iX11_coordinate_ok 87 rfl) rfl rfl (Nat.le_of_ble_eq_true rfl) rfl (gFit_rm (by decide) (by decide)) rfl ?_
      refine go_top (v' := 1) (gWi_t (by rw [i2l_toInt]; exact h3)) ?_
      refine go_if_ne (t := 167) (q := 163) (gDec iX11_coordinate_ok 88 rfl) (by decide) rfl (fun c160 => ?_) (fun c160 => False.elim (absurd c160 (by decide)))
      refine go_iconst (v := nI 0) (q := 168) (gDec iX11_coordinate_ok 91 rfl) (by decide) rfl ?_
      refine go_puti (q := 171) fX11_258 gft11 (gDec iX11_coordinate_ok 92 rfl) rfl (by decide) rfl rfl rfl rfl ?_
      refine go_w (show _ = (wr σ p w false K rd rm) from wr_b false) ?_
      refine go_iload_n (q := 172) (gDec iX11_coordinate_ok 93 rfl) rfl rfl rfl ?_
      refine go_if_eq (t := 180) (q := 175) (gDec iX11_coordinate_ok 94 rfl) (by decide) rfl (fun c172 => ?_) (fun c172 => False.elim (c172 rfl))
      refine go_iload_n (q := 181) (gDec iX11_coordinate_ok 98 rfl) rfl rfl rfl ?_
      exact go_ireturn (gDec iX11_coordinate_ok 99 rfl) rfl rfl rfl rfl (by decide)
    · rw [if_pos (Or.inr h3)]
      refine go_aload_n (q := 138) (gDec iX11_coordinate_ok 75 rfl) rfl rfl rfl ?_
      refine go_aload_n (q := 139) (gDec iX11_coordinate_ok 76 rfl) rfl rfl rfl ?_
      refine go_geti (q := 142) fX11_258 (gDec iX11_coordinate_ok 77 rfl) rfl (by decide) rfl ?_
      refine go_top (v' := 0) (rfl) ?_
      refine go_if_ne (t := 163) (q := 145) (gDec iX11_coordinate_ok 78 rfl) (by decide) rfl (fun c142 => False.elim (c142 rfl)) (fun c142 => ?_)
      refine go_iload_n (q := 146) (gDec iX11_coordinate_ok 79 rfl) rfl rfl rfl ?_
      refine go_if_eq (t := 155) (q := 149) (gDec iX11_coordinate_ok 80 rfl) (by decide) rfl (fun c146 => ?_) (fun c146 => False.elim (c146 rfl))
      refine go_iload_n (q := 156) (gDec iX11_coordinate_ok 85 rfl) rfl rfl rfl ?_
      refine go_i2l (q := 157) (gDec iX11_coordinate_ok 86 rfl) rfl ?_
      refine go_callS (n2 := 0) (q := 160) kX11_99 ctX11_isCoordinate (gDec iX11_coordinate_ok 87 rfl) rfl rfl (Nat.le_of_ble_eq_true rfl) rfl (gFit_rm (by decide) (by decide)) rfl ?_
      refine go_top (v' := 0) (gWi_f (by rw [i2l_toInt]; exact h3)) ?_
      refine go_if_ne (t := 167) (q := 163) (gDec iX11_coordinate_ok 88 rfl) (by decide) rfl (fun c160 => False.elim (c160 rfl)) (fun c160 => ?_)
      refine go_iconst (v := nI 1) (q := 164) (gDec iX11_coordinate_ok 89 rfl) (by decide) rfl ?_
      refine go_goto (t := 168) (gDec iX11_coordinate_ok 90 rfl) (by decide) ?_
      refine go_puti (q := 171) fX11_258 gft11 (gDec iX11_coordinate_ok 92 rfl) rfl (by decide) rfl rfl rfl rfl ?_
      refine go_w (show _ = (wr σ p w true K rd rm) from wr_b true) ?_
      refine go_iload_n (q := 172) (gDec iX11_coordinate_ok 93 rfl) rfl rfl rfl ?_
      refine go_if_eq (t := 180) (q := 175) (gDec iX11_coordinate_ok 94 rfl) (by decide) rfl (fun c172 => ?_) (fun c172 => False.elim (c172 rfl))
      refine go_iload_n (q := 181) (gDec iX11_coordinate_ok 98 rfl) rfl rfl rfl ?_
      exact go_ireturn (gDec iX11_coordinate_ok 99 rfl) rfl rfl rfl rfl (by decide)

set_option maxHeartbeats 4000000 in
set_option maxRecDepth 100000 in
theorem lpX11_c4w1 {κ : gK} {σ : gST} {q n : Nat} {b : Bool} {K : Nat} {rd rm : Nat → Int32} (h7 : σ.1 376 7 = nI n) (h60 : n ≤ 60) (hq : q ≤ n) : Go κ mX11_coordinate (gRm 3 0) (gZm κ (.inl (some (.int 0))) (wr σ q true b K rd rm) 0) 40 [(0, .ref (κ.2.1 + 376)), (1, .int 1)] [] (wr σ q true b K rd rm) 0 := by
  refine go_aload_n (q := 41) (gDec iX11_coordinate_ok 21 rfl) rfl rfl rfl ?_
  refine go_aload_n (q := 42) (gDec iX11_coordinate_ok 22 rfl) rfl rfl rfl ?_
  refine go_geti (q := 45) fX11_247 (gDec iX11_coordinate_ok 23 rfl) rfl (by decide) rfl ?_
  refine go_top (v' := 1) (rfl) ?_
  refine go_if_ne (t := 55) (q := 48) (gDec iX11_coordinate_ok 24 rfl) (by decide) rfl (fun c45 => ?_) (fun c45 => False.elim (absurd c45 (by decide)))
  refine go_iconst (v := nI 1) (q := 56) (gDec iX11_coordinate_ok 28 rfl) (by decide) rfl ?_
  refine go_goto (t := 60) (gDec iX11_coordinate_ok 29 rfl) (by decide) ?_
  refine go_puti (q := 63) fX11_247 gft11 (gDec iX11_coordinate_ok 31 rfl) rfl (by decide) rfl rfl rfl rfl ?_
  refine go_w (show _ = (wr σ q true b K rd rm) from wr_w true) ?_
  refine go_aload_n (q := 64) (gDec iX11_coordinate_ok 32 rfl) rfl rfl rfl ?_
  refine go_geti (q := 67) fX11_247 (gDec iX11_coordinate_ok 33 rfl) rfl (by decide) rfl ?_
  refine go_top (v' := 1) (rfl) ?_
  refine go_if_eq (t := 72) (q := 70) (gDec iX11_coordinate_ok 34 rfl) (by decide) rfl (fun c67 => False.elim (absurd c67 (by decide))) (fun c67 => ?_)
  refine go_iconst (v := nI 0) (q := 71) (gDec iX11_coordinate_ok 35 rfl) (by decide) rfl ?_
  exact go_ireturn (gDec iX11_coordinate_ok 36 rfl) rfl rfl rfl rfl (by decide)

set_option maxHeartbeats 4000000 in
set_option maxRecDepth 100000 in
theorem lpX11_c4x1 {κ : gK} {σ : gST} {q n : Nat} {b : Bool} {K : Nat} {rd rm : Nat → Int32} (h7 : σ.1 376 7 = nI n) (h60 : n ≤ 60) (hq : q ≤ n) (hd : ¬ (48 ≤ (hr (σ.1 380) n q).toInt ∧ (hr (σ.1 380) n q).toInt ≤ 57)) : Go κ mX11_coordinate (gRm 3 0) (gZm κ (.inl (some (.int 0))) (wr σ q true b K rd rm) 0) 40 [(0, .ref (κ.2.1 + 376)), (1, .int 1)] [] (wr σ q false b K rd rm) 0 := by
  refine go_aload_n (q := 41) (gDec iX11_coordinate_ok 21 rfl) rfl rfl rfl ?_
  refine go_aload_n (q := 42) (gDec iX11_coordinate_ok 22 rfl) rfl rfl rfl ?_
  refine go_geti (q := 45) fX11_247 (gDec iX11_coordinate_ok 23 rfl) rfl (by decide) rfl ?_
  refine go_top (v' := 0) (rfl) ?_
  refine go_if_ne (t := 55) (q := 48) (gDec iX11_coordinate_ok 24 rfl) (by decide) rfl (fun c45 => False.elim (c45 rfl)) (fun c45 => ?_)
  refine go_aload_n (q := 49) (gDec iX11_coordinate_ok 25 rfl) rfl rfl rfl ?_
  refine go_callV (n2 := 0) (q := 52) kX11_254 (ctX11_isDigit (w := false) h7 h60 hq) (gDec iX11_coordinate_ok 26 rfl) rfl rfl (by decide) rfl rfl rfl (Nat.le_of_ble_eq_true rfl) rfl (gFit_rm (by decide) (by decide)) rfl ?_
  refine go_top (v' := 0) (gWi_f hd) ?_
  refine go_if_ne (t := 59) (q := 55) (gDec iX11_coordinate_ok 27 rfl) (by decide) rfl (fun c52 => False.elim (c52 rfl)) (fun c52 => ?_)
  refine go_iconst (v := nI 1) (q := 56) (gDec iX11_coordinate_ok 28 rfl) (by decide) rfl ?_
  refine go_goto (t := 60) (gDec iX11_coordinate_ok 29 rfl) (by decide) ?_
  refine go_puti (q := 63) fX11_247 gft11 (gDec iX11_coordinate_ok 31 rfl) rfl (by decide) rfl rfl rfl rfl ?_
  refine go_w (show _ = (wr σ q true b K rd rm) from wr_w true) ?_
  refine go_aload_n (q := 64) (gDec iX11_coordinate_ok 32 rfl) rfl rfl rfl ?_
  refine go_geti (q := 67) fX11_247 (gDec iX11_coordinate_ok 33 rfl) rfl (by decide) rfl ?_
  refine go_top (v' := 1) (rfl) ?_
  refine go_if_eq (t := 72) (q := 70) (gDec iX11_coordinate_ok 34 rfl) (by decide) rfl (fun c67 => False.elim (absurd c67 (by decide))) (fun c67 => ?_)
  refine go_iconst (v := nI 0) (q := 71) (gDec iX11_coordinate_ok 35 rfl) (by decide) rfl ?_
  exact go_ireturn (gDec iX11_coordinate_ok 36 rfl) rfl rfl rfl rfl (by decide)

set_option maxHeartbeats 4000000 in
set_option maxRecDepth 100000 in
theorem lpX11_c4d1 {κ : gK} {σ : gST} {q n : Nat} {b : Bool} {K : Nat} {rd rm : Nat → Int32} (h7 : σ.1 376 7 = nI n) (h60 : n ≤ 60) (hq : q ≤ n) (hd : 48 ≤ (hr (σ.1 380) n q).toInt ∧ (hr (σ.1 380) n q).toInt ≤ 57) : Go κ mX11_coordinate (gRm 3 0) (gZm κ (.inl (some (.int (-(dNum (σ.1 380) n 3 (q + 1) (hr (σ.1 380) n q - 48)).2)))) (wr σ (dNum (σ.1 380) n 3 (q + 1) (hr (σ.1 380) n q - 48)).1 false (if b = true ∨ ¬ (-200 ≤ (-(dNum (σ.1 380) n 3 (q + 1) (hr (σ.1 380) n q - 48)).2).toInt ∧ (-(dNum (σ.1 380) n 3 (q + 1) (hr (σ.1 380) n q - 48)).2).toInt ≤ 1200) then true else false) K rd rm) 0) 40 [(0, .ref (κ.2.1 + 376)), (1, .int 1)] [] (wr σ q false b K rd rm) 0 := by
  refine go_aload_n (q := 41) (gDec iX11_coordinate_ok 21 rfl) rfl rfl rfl ?_
  refine go_aload_n (q := 42) (gDec iX11_coordinate_ok 22 rfl) rfl rfl rfl ?_
  refine go_geti (q := 45) fX11_247 (gDec iX11_coordinate_ok 23 rfl) rfl (by decide) rfl ?_
  refine go_top (v' := 0) (rfl) ?_
  refine go_if_ne (t := 55) (q := 48) (gDec iX11_coordinate_ok 24 rfl) (by decide) rfl (fun c45 => False.elim (c45 rfl)) (fun c45 => ?_)
  refine go_aload_n (q := 49) (gDec iX11_coordinate_ok 25 rfl) rfl rfl rfl ?_
  refine go_callV (n2 := 0) (q := 52) kX11_254 (ctX11_isDigit (w := false) h7 h60 hq) (gDec iX11_coordinate_ok 26 rfl) rfl rfl (by decide) rfl rfl rfl (Nat.le_of_ble_eq_true rfl) rfl (gFit_rm (by decide) (by decide)) rfl ?_
  refine go_top (v' := 1) (gWi_t hd) ?_
  refine go_if_ne (t := 59) (q := 55) (gDec iX11_coordinate_ok 27 rfl) (by decide) rfl (fun c52 => ?_) (fun c52 => False.elim (absurd c52 (by decide)))
  refine go_iconst (v := nI 0) (q := 60) (gDec iX11_coordinate_ok 30 rfl) (by decide) rfl ?_
  refine go_puti (q := 63) fX11_247 gft11 (gDec iX11_coordinate_ok 31 rfl) rfl (by decide) rfl rfl rfl rfl ?_
  refine go_w (show _ = (wr σ q false b K rd rm) from wr_w false) ?_
  refine go_aload_n (q := 64) (gDec iX11_coordinate_ok 32 rfl) rfl rfl rfl ?_
  refine go_geti (q := 67) fX11_247 (gDec iX11_coordinate_ok 33 rfl) rfl (by decide) rfl ?_
  refine go_top (v' := 0) (rfl) ?_
  refine go_if_eq (t := 72) (q := 70) (gDec iX11_coordinate_ok 34 rfl) (by decide) rfl (fun c67 => ?_) (fun c67 => False.elim (c67 rfl))
  refine go_aload_n (q := 73) (gDec iX11_coordinate_ok 37 rfl) rfl rfl rfl ?_
  refine go_callV (n2 := 0) (q := 76) kX11_251 (ctX11_here (w := false) h7 h60 hq) (gDec iX11_coordinate_ok 38 rfl) rfl rfl (by decide) rfl rfl rfl (Nat.le_of_ble_eq_true rfl) rfl (gFit_rm (by decide) (by decide)) rfl ?_
  refine go_bipush (v := 48) (q := 78) (gDec iX11_coordinate_ok 39 rfl) (by decide) rfl ?_
  refine go_isub (q := 79) (gDec iX11_coordinate_ok 40 rfl) rfl ?_
  refine go_istore_n (q := 80) (gDec iX11_coordinate_ok 41 rfl) rfl (by decide) rfl ?_
  refine go_aload_n (q := 81) (gDec iX11_coordinate_ok 42 rfl) rfl rfl rfl ?_
  refine go_dup (q := 82) (gDec iX11_coordinate_ok 43 rfl) rfl rfl ?_
  refine go_geti (q := 85) fX11_244 (gDec iX11_coordinate_ok 44 rfl) rfl (by decide) rfl ?_
  refine go_top (v' := nI q) (rfl) ?_
  refine go_iconst (v := nI 1) (q := 86) (gDec iX11_coordinate_ok 45 rfl) (by decide) rfl ?_
  refine go_iaddN (c := q + 1) (q := 87) (gDec iX11_coordinate_ok 46 rfl) rfl rfl ?_
  refine go_puti (q := 90) fX11_244 gft11 (gDec iX11_coordinate_ok 47 rfl) rfl (by decide) rfl rfl rfl rfl ?_
  refine go_w (show _ = (wr σ (q + 1) false b K rd rm) from wr_p (q + 1)) ?_
  refine go_iconst (v := nI 1) (q := 91) (gDec iX11_coordinate_ok 48 rfl) (by decide) rfl ?_
  refine go_istore_n (q := 92) (gDec iX11_coordinate_ok 49 rfl) rfl (by decide) rfl ?_
  refine go_sub (L' := [(0, .ref (κ.2.1 + 376)), (1, .int 1), (2, .int (hr (σ.1 380) n q - 48)), (3, .int (nI 1))]) ⟨rfl, rfl, rfl, rfl, trivial⟩ ?_
  refine lpX11_dig (σ := σ) (l := 1) h7 h60 3 1 (q + 1) (hr (σ.1 380) n q - 48) rfl (by have := dg_lt hd; omega) ?_
  exact lpX11_cem

set_option maxHeartbeats 4000000 in
set_option maxRecDepth 100000 in
theorem lpX11_c4w0 {κ : gK} {σ : gST} {q n : Nat} {b : Bool} {K : Nat} {rd rm : Nat → Int32} (h7 : σ.1 376 7 = nI n) (h60 : n ≤ 60) (hq : q ≤ n) : Go κ mX11_coordinate (gRm 3 0) (gZm κ (.inl (some (.int 0))) (wr σ q true b K rd rm) 0) 40 [(0, .ref (κ.2.1 + 376)), (1, .int 0)] [] (wr σ q true b K rd rm) 0 := by
  refine go_aload_n (q := 41) (gDec iX11_coordinate_ok 21 rfl) rfl rfl rfl ?_
  refine go_aload_n (q := 42) (gDec iX11_coordinate_ok 22 rfl) rfl rfl rfl ?_
  refine go_geti (q := 45) fX11_247 (gDec iX11_coordinate_ok 23 rfl) rfl (by decide) rfl ?_
  refine go_top (v' := 1) (rfl) ?_
  refine go_if_ne (t := 55) (q := 48) (gDec iX11_coordinate_ok 24 rfl) (by decide) rfl (fun c45 => ?_) (fun c45 => False.elim (absurd c45 (by decide)))
  refine go_iconst (v := nI 1) (q := 56) (gDec iX11_coordinate_ok 28 rfl) (by decide) rfl ?_
  refine go_goto (t := 60) (gDec iX11_coordinate_ok 29 rfl) (by decide) ?_
  refine go_puti (q := 63) fX11_247 gft11 (gDec iX11_coordinate_ok 31 rfl) rfl (by decide) rfl rfl rfl rfl ?_
  refine go_w (show _ = (wr σ q true b K rd rm) from wr_w true) ?_
  refine go_aload_n (q := 64) (gDec iX11_coordinate_ok 32 rfl) rfl rfl rfl ?_
  refine go_geti (q := 67) fX11_247 (gDec iX11_coordinate_ok 33 rfl) rfl (by decide) rfl ?_
  refine go_top (v' := 1) (rfl) ?_
  refine go_if_eq (t := 72) (q := 70) (gDec iX11_coordinate_ok 34 rfl) (by decide) rfl (fun c67 => False.elim (absurd c67 (by decide))) (fun c67 => ?_)
  refine go_iconst (v := nI 0) (q := 71) (gDec iX11_coordinate_ok 35 rfl) (by decide) rfl ?_
  exact go_ireturn (gDec iX11_coordinate_ok 36 rfl) rfl rfl rfl rfl (by decide)

set_option maxHeartbeats 4000000 in
set_option maxRecDepth 100000 in
theorem lpX11_c4x0 {κ : gK} {σ : gST} {q n : Nat} {b : Bool} {K : Nat} {rd rm : Nat → Int32} (h7 : σ.1 376 7 = nI n) (h60 : n ≤ 60) (hq : q ≤ n) (hd : ¬ (48 ≤ (hr (σ.1 380) n q).toInt ∧ (hr (σ.1 380) n q).toInt ≤ 57)) : Go κ mX11_coordinate (gRm 3 0) (gZm κ (.inl (some (.int 0))) (wr σ q true b K rd rm) 0) 40 [(0, .ref (κ.2.1 + 376)), (1, .int 0)] [] (wr σ q false b K rd rm) 0 := by
  refine go_aload_n (q := 41) (gDec iX11_coordinate_ok 21 rfl) rfl rfl rfl ?_
  refine go_aload_n (q := 42) (gDec iX11_coordinate_ok 22 rfl) rfl rfl rfl ?_
  refine go_geti (q := 45) fX11_247 (gDec iX11_coordinate_ok 23 rfl) rfl (by decide) rfl ?_
  refine go_top (v' := 0) (rfl) ?_
  refine go_if_ne (t := 55) (q := 48) (gDec iX11_coordinate_ok 24 rfl) (by decide) rfl (fun c45 => False.elim (c45 rfl)) (fun c45 => ?_)
  refine go_aload_n (q := 49) (gDec iX11_coordinate_ok 25 rfl) rfl rfl rfl ?_
  refine go_callV (n2 := 0) (q := 52) kX11_254 (ctX11_isDigit (w := false) h7 h60 hq) (gDec iX11_coordinate_ok 26 rfl) rfl rfl (by decide) rfl rfl rfl (Nat.le_of_ble_eq_true rfl) rfl (gFit_rm (by decide) (by decide)) rfl ?_
  refine go_top (v' := 0) (gWi_f hd) ?_
  refine go_if_ne (t := 59) (q := 55) (gDec iX11_coordinate_ok 27 rfl) (by decide) rfl (fun c52 => False.elim (c52 rfl)) (fun c52 => ?_)
  refine go_iconst (v := nI 1) (q := 56) (gDec iX11_coordinate_ok 28 rfl) (by decide) rfl ?_
  refine go_goto (t := 60) (gDec iX11_coordinate_ok 29 rfl) (by decide) ?_
  refine go_puti (q := 63) fX11_247 gft11 (gDec iX11_coordinate_ok 31 rfl) rfl (by decide) rfl rfl rfl rfl ?_
  refine go_w (show _ = (wr σ q true b K rd rm) from wr_w true) ?_
  refine go_aload_n (q := 64) (gDec iX11_coordinate_ok 32 rfl) rfl rfl rfl ?_
  refine go_geti (q := 67) fX11_247 (gDec iX11_coordinate_ok 33 rfl) rfl (by decide) rfl ?_
  refine go_top (v' := 1) (rfl) ?_
  refine go_if_eq (t := 72) (q := 70) (gDec iX11_coordinate_ok 34 rfl) (by decide) rfl (fun c67 => False.elim (absurd c67 (by decide))) (fun c67 => ?_)
  refine go_iconst (v := nI 0) (q := 71) (gDec iX11_coordinate_ok 35 rfl) (by decide) rfl ?_
  exact go_ireturn (gDec iX11_coordinate_ok 36 rfl) rfl rfl rfl rfl (by decide)

set_option maxHeartbeats 4000000 in
set_option maxRecDepth 100000 in
theorem lpX11_c4d0 {κ : gK} {σ : gST} {q n : Nat} {b : Bool} {K : Nat} {rd rm : Nat → Int32} (h7 : σ.1 376 7 = nI n) (h60 : n ≤ 60) (hq : q ≤ n) (hd : 48 ≤ (hr (σ.1 380) n q).toInt ∧ (hr (σ.1 380) n q).toInt ≤ 57) : Go κ mX11_coordinate (gRm 3 0) (gZm κ (.inl (some (.int (dNum (σ.1 380) n 3 (q + 1) (hr (σ.1 380) n q - 48)).2))) (wr σ (dNum (σ.1 380) n 3 (q + 1) (hr (σ.1 380) n q - 48)).1 false (if b = true ∨ ¬ (-200 ≤ (dNum (σ.1 380) n 3 (q + 1) (hr (σ.1 380) n q - 48)).2.toInt ∧ (dNum (σ.1 380) n 3 (q + 1) (hr (σ.1 380) n q - 48)).2.toInt ≤ 1200) then true else false) K rd rm) 0) 40 [(0, .ref (κ.2.1 + 376)), (1, .int 0)] [] (wr σ q false b K rd rm) 0 := by
  refine go_aload_n (q := 41) (gDec iX11_coordinate_ok 21 rfl) rfl rfl rfl ?_
  refine go_aload_n (q := 42) (gDec iX11_coordinate_ok 22 rfl) rfl rfl rfl ?_
  refine go_geti (q := 45) fX11_247 (gDec iX11_coordinate_ok 23 rfl) rfl (by decide) rfl ?_
  refine go_top (v' := 0) (rfl) ?_
  refine go_if_ne (t := 55) (q := 48) (gDec iX11_coordinate_ok 24 rfl) (by decide) rfl (fun c45 => False.elim (c45 rfl)) (fun c45 => ?_)
  refine go_aload_n (q := 49) (gDec iX11_coordinate_ok 25 rfl) rfl rfl rfl ?_
  refine go_callV (n2 := 0) (q := 52) kX11_254 (ctX11_isDigit (w := false) h7 h60 hq) (gDec iX11_coordinate_ok 26 rfl) rfl rfl (by decide) rfl rfl rfl (Nat.le_of_ble_eq_true rfl) rfl (gFit_rm (by decide) (by decide)) rfl ?_
  refine go_top (v' := 1) (gWi_t hd) ?_
  refine go_if_ne (t := 59) (q := 55) (gDec iX11_coordinate_ok 27 rfl) (by decide) rfl (fun c52 => ?_) (fun c52 => False.elim (absurd c52 (by decide)))
  refine go_iconst (v := nI 0) (q := 60) (gDec iX11_coordinate_ok 30 rfl) (by decide) rfl ?_
  refine go_puti (q := 63) fX11_247 gft11 (gDec iX11_coordinate_ok 31 rfl) rfl (by decide) rfl rfl rfl rfl ?_
  refine go_w (show _ = (wr σ q false b K rd rm) from wr_w false) ?_
  refine go_aload_n (q := 64) (gDec iX11_coordinate_ok 32 rfl) rfl rfl rfl ?_
  refine go_geti (q := 67) fX11_247 (gDec iX11_coordinate_ok 33 rfl) rfl (by decide) rfl ?_
  refine go_top (v' := 0) (rfl) ?_
  refine go_if_eq (t := 72) (q := 70) (gDec iX11_coordinate_ok 34 rfl) (by decide) rfl (fun c67 => ?_) (fun c67 => False.elim (c67 rfl))
  refine go_aload_n (q := 73) (gDec iX11_coordinate_ok 37 rfl) rfl rfl rfl ?_
  refine go_callV (n2 := 0) (q := 76) kX11_251 (ctX11_here (w := false) h7 h60 hq) (gDec iX11_coordinate_ok 38 rfl) rfl rfl (by decide) rfl rfl rfl (Nat.le_of_ble_eq_true rfl) rfl (gFit_rm (by decide) (by decide)) rfl ?_
  refine go_bipush (v := 48) (q := 78) (gDec iX11_coordinate_ok 39 rfl) (by decide) rfl ?_
  refine go_isub (q := 79) (gDec iX11_coordinate_ok 40 rfl) rfl ?_
  refine go_istore_n (q := 80) (gDec iX11_coordinate_ok 41 rfl) rfl (by decide) rfl ?_
  refine go_aload_n (q := 81) (gDec iX11_coordinate_ok 42 rfl) rfl rfl rfl ?_
  refine go_dup (q := 82) (gDec iX11_coordinate_ok 43 rfl) rfl rfl ?_
  refine go_geti (q := 85) fX11_244 (gDec iX11_coordinate_ok 44 rfl) rfl (by decide) rfl ?_
  refine go_top (v' := nI q) (rfl) ?_
  refine go_iconst (v := nI 1) (q := 86) (gDec iX11_coordinate_ok 45 rfl) (by decide) rfl ?_
  refine go_iaddN (c := q + 1) (q := 87) (gDec iX11_coordinate_ok 46 rfl) rfl rfl ?_
  refine go_puti (q := 90) fX11_244 gft11 (gDec iX11_coordinate_ok 47 rfl) rfl (by decide) rfl rfl rfl rfl ?_
  refine go_w (show _ = (wr σ (q + 1) false b K rd rm) from wr_p (q + 1)) ?_
  refine go_iconst (v := nI 1) (q := 91) (gDec iX11_coordinate_ok 48 rfl) (by decide) rfl ?_
  refine go_istore_n (q := 92) (gDec iX11_coordinate_ok 49 rfl) rfl (by decide) rfl ?_
  refine go_sub (L' := [(0, .ref (κ.2.1 + 376)), (1, .int 0), (2, .int (hr (σ.1 380) n q - 48)), (3, .int (nI 1))]) ⟨rfl, rfl, rfl, rfl, trivial⟩ ?_
  refine lpX11_dig (σ := σ) (l := 0) h7 h60 3 1 (q + 1) (hr (σ.1 380) n q - 48) rfl (by have := dg_lt hd; omega) ?_
  exact lpX11_cep

set_option maxHeartbeats 4000000 in
set_option maxRecDepth 100000 in
theorem ctX11_coordinate {κ : gK} {σ : gST} {p n : Nat} {w b : Bool} {K : Nat} {rd rm : Nat → Int32} (h7 : σ.1 376 7 = nI n) (h60 : n ≤ 60) (hp : p ≤ n) : gCt κ mX11_coordinate 3 [.ref (κ.2.1 + 376)] (wr σ p w b K rd rm) (.inl (some (.int (cV (σ.1 380) n p w)))) (wr σ (cP (σ.1 380) n p w) (cW1 (σ.1 380) n p w) (cB (σ.1 380) n p w b) K rd rm) 0 := by
  refine ct_of (by decide +kernel) rfl (Nat.le_of_ble_eq_true rfl) rfl ?_
  cases w with
  | true =>
    have e1 : cP1 (σ.1 380) n p true = p := if_neg (fun h9 => by cases h9.2)
    have e2 : cW1 (σ.1 380) n p true = true := if_pos (Or.inl rfl)
    rw [show cV (σ.1 380) n p true = 0 from if_pos e2, show cP (σ.1 380) n p true = p from (if_pos e2).trans e1, e2, show cB (σ.1 380) n p true b = b from if_pos e2]
    by_cases h1 : hr (σ.1 380) n p = 45
    · skip
      refine go_aload_n (q := 1) (gDec iX11_coordinate_ok 0 rfl) rfl rfl rfl ?_
      refine go_callV (n2 := 0) (q := 4) kX11_251 (ctX11_here (w := true) h7 h60 hp) (gDec iX11_coordinate_ok 1 rfl) rfl rfl (by decide) rfl rfl rfl (Nat.le_of_ble_eq_true rfl) rfl (gFit_rm (by decide) (by decide)) rfl ?_
      refine go_bipush (v := 45) (q := 6) (gDec iX11_coordinate_ok 2 rfl) (by decide) rfl ?_
      refine go_icmp_ne (t := 13) (q := 9) (gDec iX11_coordinate_ok 3 rfl) (by decide) rfl (fun c6 => False.elim (c6 h1)) (fun c6 => ?_)
      refine go_iconst (v := nI 1) (q := 10) (gDec iX11_coordinate_ok 4 rfl) (by decide) rfl ?_
      refine go_goto (t := 14) (gDec iX11_coordinate_ok 5 rfl) (by decide) ?_
      refine go_istore_n (q := 15) (gDec iX11_coordinate_ok 7 rfl) rfl (by decide) rfl ?_
      refine go_aload_n (q := 16) (gDec iX11_coordinate_ok 8 rfl) rfl rfl rfl ?_
      refine go_dup (q := 17) (gDec iX11_coordinate_ok 9 rfl) rfl rfl ?_
      refine go_geti (q := 20) fX11_244 (gDec iX11_coordinate_ok 10 rfl) rfl (by decide) rfl ?_
      refine go_top (v' := nI p) (rfl) ?_
      refine go_iload_n (q := 21) (gDec iX11_coordinate_ok 11 rfl) rfl rfl rfl ?_
      refine go_if_eq (t := 35) (q := 24) (gDec iX11_coordinate_ok 12 rfl) (by decide) rfl (fun c21 => False.elim (absurd c21 (by decide))) (fun c21 => ?_)
      refine go_aload_n (q := 25) (gDec iX11_coordinate_ok 13 rfl) rfl rfl rfl ?_
      refine go_geti (q := 28) fX11_247 (gDec iX11_coordinate_ok 14 rfl) rfl (by decide) rfl ?_
      refine go_top (v' := 1) (rfl) ?_
      refine go_if_ne (t := 35) (q := 31) (gDec iX11_coordinate_ok 15 rfl) (by decide) rfl (fun c28 => ?_) (fun c28 => False.elim (absurd c28 (by decide)))
      refine go_iconst (v := nI 0) (q := 36) (gDec iX11_coordinate_ok 18 rfl) (by decide) rfl ?_
      refine go_iaddN (c := p + 0) (q := 37) (gDec iX11_coordinate_ok 19 rfl) rfl rfl ?_
      refine go_puti (q := 40) fX11_244 gft11 (gDec iX11_coordinate_ok 20 rfl) rfl (by decide) rfl rfl rfl rfl ?_
      refine go_sub (L' := [(0, .ref (κ.2.1 + 376)), (1, .int 1)]) ⟨rfl, rfl, trivial⟩ ?_
      exact lpX11_c4w1 h7 h60 hp
    · skip
      refine go_aload_n (q := 1) (gDec iX11_coordinate_ok 0 rfl) rfl rfl rfl ?_
      refine go_callV (n2 := 0) (q := 4) kX11_251 (ctX11_here (w := true) h7 h60 hp) (gDec iX11_coordinate_ok 1 rfl) rfl rfl (by decide) rfl rfl rfl (Nat.le_of_ble_eq_true rfl) rfl (gFit_rm (by decide) (by decide)) rfl ?_
      refine go_bipush (v := 45) (q := 6) (gDec iX11_coordinate_ok 2 rfl) (by decide) rfl ?_
      refine go_icmp_ne (t := 13) (q := 9) (gDec iX11_coordinate_ok 3 rfl) (by decide) rfl (fun c6 => ?_) (fun c6 => False.elim (h1 c6))
      refine go_iconst (v := nI 0) (q := 14) (gDec iX11_coordinate_ok 6 rfl) (by decide) rfl ?_
      refine go_istore_n (q := 15) (gDec iX11_coordinate_ok 7 rfl) rfl (by decide) rfl ?_
      refine go_aload_n (q := 16) (gDec iX11_coordinate_ok 8 rfl) rfl rfl rfl ?_
      refine go_dup (q := 17) (gDec iX11_coordinate_ok 9 rfl) rfl rfl ?_
      refine go_geti (q := 20) fX11_244 (gDec iX11_coordinate_ok 10 rfl) rfl (by decide) rfl ?_
      refine go_top (v' := nI p) (rfl) ?_
      refine go_iload_n (q := 21) (gDec iX11_coordinate_ok 11 rfl) rfl rfl rfl ?_
      refine go_if_eq (t := 35) (q := 24) (gDec iX11_coordinate_ok 12 rfl) (by decide) rfl (fun c21 => ?_) (fun c21 => False.elim (c21 (by decide)))
      refine go_iconst (v := nI 0) (q := 36) (gDec iX11_coordinate_ok 18 rfl) (by decide) rfl ?_
      refine go_iaddN (c := p + 0) (q := 37) (gDec iX11_coordinate_ok 19 rfl) rfl rfl ?_
      refine go_puti (q := 40) fX11_244 gft11 (gDec iX11_coordinate_ok 20 rfl) rfl (by decide) rfl rfl rfl rfl ?_
      refine go_sub (L' := [(0, .ref (κ.2.1 + 376)), (1, .int 0)]) ⟨rfl, rfl, trivial⟩ ?_
      exact lpX11_c4w0 h7 h60 hp
  | false =>
    by_cases h1 : hr (σ.1 380) n p = 45
    · have e1 : cP1 (σ.1 380) n p false = p + 1 := if_pos ⟨h1, rfl⟩
      have hq : p + 1 ≤ n := by have := hr_lt h1 (by decide); omega
      by_cases h2 : 48 ≤ (hr (σ.1 380) n (p + 1)).toInt ∧ (hr (σ.1 380) n (p + 1)).toInt ≤ 57
      · have e2 : cW1 (σ.1 380) n p false = false := if_neg (fun h9 => h9.elim (fun h8 => by cases h8) (fun h8 => h8 (by rw [e1]; exact h2)))
        have e3 : ¬ cW1 (σ.1 380) n p false = true := fun h9 => by rw [e2] at h9; cases h9
        have e4 : cNu (σ.1 380) n p false = dNum (σ.1 380) n 3 (p + 1 + 1) (hr (σ.1 380) n (p + 1) - 48) := by unfold cNu; rw [e1]
        have e5 : cVs (σ.1 380) n p false = -(dNum (σ.1 380) n 3 (p + 1 + 1) (hr (σ.1 380) n (p + 1) - 48)).2 := by unfold cVs; rw [if_pos h1, e4]
        rw [show cV (σ.1 380) n p false = _ from (if_neg e3).trans e5, show cP (σ.1 380) n p false = _ from (if_neg e3).trans (congrArg Prod.fst e4), show cB (σ.1 380) n p false b = _ from if_neg e3, e5, e2]
        refine go_aload_n (q := 1) (gDec iX11_coordinate_ok 0 rfl) rfl rfl rfl ?_
        refine go_callV (n2 := 0) (q := 4) kX11_251 (ctX11_here (w := false) h7 h60 hp) (gDec iX11_coordinate_ok 1 rfl) rfl rfl (by decide) rfl rfl rfl (Nat.le_of_ble_eq_true rfl) rfl (gFit_rm (by decide) (by decide)) rfl ?_
        refine go_bipush (v := 45) (q := 6) (gDec iX11_coordinate_ok 2 rfl) (by decide) rfl ?_
        refine go_icmp_ne (t := 13) (q := 9) (gDec iX11_coordinate_ok 3 rfl) (by decide) rfl (fun c6 => False.elim (c6 h1)) (fun c6 => ?_)
        refine go_iconst (v := nI 1) (q := 10) (gDec iX11_coordinate_ok 4 rfl) (by decide) rfl ?_
        refine go_goto (t := 14) (gDec iX11_coordinate_ok 5 rfl) (by decide) ?_
        refine go_istore_n (q := 15) (gDec iX11_coordinate_ok 7 rfl) rfl (by decide) rfl ?_
        refine go_aload_n (q := 16) (gDec iX11_coordinate_ok 8 rfl) rfl rfl rfl ?_
        refine go_dup (q := 17) (gDec iX11_coordinate_ok 9 rfl) rfl rfl ?_
        refine go_geti (q := 20) fX11_244 (gDec iX11_coordinate_ok 10 rfl) rfl (by decide) rfl ?_
        refine go_top (v' := nI p) (rfl) ?_
        refine go_iload_n (q := 21) (gDec iX11_coordinate_ok 11 rfl) rfl rfl rfl ?_
        refine go_if_eq (t := 35) (q := 24) (gDec iX11_coordinate_ok 12 rfl) (by decide) rfl (fun c21 => False.elim (absurd c21 (by decide))) (fun c21 => ?_)
        refine go_aload_n (q := 25) (gDec iX11_coordinate_ok 13 rfl) rfl rfl rfl ?_
        refine go_geti (q := 28) fX11_247 (gDec iX11_coordinate_ok 14 rfl) rfl (by decide) rfl ?_
        refine go_top (v' := 0) (rfl) ?_
        refine go_if_ne (t := 35) (q := 31) (gDec iX11_coordinate_ok 15 rfl) (by decide) rfl (fun c28 => False.elim (c28 rfl)) (fun c28 => ?_)
        refine go_iconst (v := nI 1) (q := 32) (gDec iX11_coordinate_ok 16 rfl) (by decide) rfl ?_
        refine go_goto (t := 36) (gDec iX11_coordinate_ok 17 rfl) (by decide) ?_
        refine go_iaddN (c := p + 1) (q := 37) (gDec iX11_coordinate_ok 19 rfl) rfl rfl ?_
        refine go_puti (q := 40) fX11_244 gft11 (gDec iX11_coordinate_ok 20 rfl) rfl (by decide) rfl rfl rfl rfl ?_
        refine go_sub (L' := [(0, .ref (κ.2.1 + 376)), (1, .int 1)]) ⟨rfl, rfl, trivial⟩ ?_
        exact lpX11_c4d1 h7 h60 hq h2
      · have e2 : cW1 (σ.1 380) n p false = true := if_pos (Or.inr (by rw [e1]; exact h2))
        rw [show cV (σ.1 380) n p false = 0 from if_pos e2, show cP (σ.1 380) n p false = p + 1 from (if_pos e2).trans e1, e2, show cB (σ.1 380) n p false b = b from if_pos e2]
        refine go_aload_n (q := 1) (gDec iX11_coordinate_ok 0 rfl) rfl rfl rfl ?_
        refine go_callV (n2 := 0) (q := 4) kX11_251 (ctX11_here (w := false) h7 h60 hp) (gDec iX11_coordinate_ok 1 rfl) rfl rfl (by decide) rfl rfl rfl (Nat.le_of_ble_eq_true rfl) rfl (gFit_rm (by decide) (by decide)) rfl ?_
        refine go_bipush (v := 45) (q := 6) (gDec iX11_coordinate_ok 2 rfl) (by decide) rfl ?_
        refine go_icmp_ne (t := 13) (q := 9) (gDec iX11_coordinate_ok 3 rfl) (by decide) rfl (fun c6 => False.elim (c6 h1)) (fun c6 => ?_)
        refine go_iconst (v := nI 1) (q := 10) (gDec iX11_coordinate_ok 4 rfl) (by decide) rfl ?_
        refine go_goto (t := 14) (gDec iX11_coordinate_ok 5 rfl) (by decide) ?_
        refine go_istore_n (q := 15) (gDec iX11_coordinate_ok 7 rfl) rfl (by decide) rfl ?_
        refine go_aload_n (q := 16) (gDec iX11_coordinate_ok 8 rfl) rfl rfl rfl ?_
        refine go_dup (q := 17) (gDec iX11_coordinate_ok 9 rfl) rfl rfl ?_
        refine go_geti (q := 20) fX11_244 (gDec iX11_coordinate_ok 10 rfl) rfl (by decide) rfl ?_
        refine go_top (v' := nI p) (rfl) ?_
        refine go_iload_n (q := 21) (gDec iX11_coordinate_ok 11 rfl) rfl rfl rfl ?_
        refine go_if_eq (t := 35) (q := 24) (gDec iX11_coordinate_ok 12 rfl) (by decide) rfl (fun c21 => False.elim (absurd c21 (by decide))) (fun c21 => ?_)
        refine go_aload_n (q := 25) (gDec iX11_coordinate_ok 13 rfl) rfl rfl rfl ?_
        refine go_geti (q := 28) fX11_247 (gDec iX11_coordinate_ok 14 rfl) rfl (by decide) rfl ?_
        refine go_top (v' := 0) (rfl) ?_
        refine go_if_ne (t := 35) (q := 31) (gDec iX11_coordinate_ok 15 rfl) (by decide) rfl (fun c28 => False.elim (c28 rfl)) (fun c28 => ?_)
        refine go_iconst (v := nI 1) (q := 32) (gDec iX11_coordinate_ok 16 rfl) (by decide) rfl ?_
        refine go_goto (t := 36) (gDec iX11_coordinate_ok 17 rfl) (by decide) ?_
        refine go_iaddN (c := p + 1) (q := 37) (gDec iX11_coordinate_ok 19 rfl) rfl rfl ?_
        refine go_puti (q := 40) fX11_244 gft11 (gDec iX11_coordinate_ok 20 rfl) rfl (by decide) rfl rfl rfl rfl ?_
        refine go_sub (L' := [(0, .ref (κ.2.1 + 376)), (1, .int 1)]) ⟨rfl, rfl, trivial⟩ ?_
        exact lpX11_c4x1 h7 h60 hq h2
    · have e1 : cP1 (σ.1 380) n p false = p := if_neg (fun h9 => h1 h9.1)
      by_cases h2 : 48 ≤ (hr (σ.1 380) n p).toInt ∧ (hr (σ.1 380) n p).toInt ≤ 57
      · have e2 : cW1 (σ.1 380) n p false = false := if_neg (fun h9 => h9.elim (fun h8 => by cases h8) (fun h8 => h8 (by rw [e1]; exact h2)))
        have e3 : ¬ cW1 (σ.1 380) n p false = true := fun h9 => by rw [e2] at h9; cases h9
        have e4 : cNu (σ.1 380) n p false = dNum (σ.1 380) n 3 (p + 1) (hr (σ.1 380) n p - 48) := by unfold cNu; rw [e1]
        have e5 : cVs (σ.1 380) n p false = (dNum (σ.1 380) n 3 (p + 1) (hr (σ.1 380) n p - 48)).2 := by unfold cVs; rw [if_neg h1, e4]
        rw [show cV (σ.1 380) n p false = _ from (if_neg e3).trans e5, show cP (σ.1 380) n p false = _ from (if_neg e3).trans (congrArg Prod.fst e4), show cB (σ.1 380) n p false b = _ from if_neg e3, e5, e2]
        refine go_aload_n (q := 1) (gDec iX11_coordinate_ok 0 rfl) rfl rfl rfl ?_
        refine go_callV (n2 := 0) (q := 4) kX11_251 (ctX11_here (w := false) h7 h60 hp) (gDec iX11_coordinate_ok 1 rfl) rfl rfl (by decide) rfl rfl rfl (Nat.le_of_ble_eq_true rfl) rfl (gFit_rm (by decide) (by decide)) rfl ?_
        refine go_bipush (v := 45) (q := 6) (gDec iX11_coordinate_ok 2 rfl) (by decide) rfl ?_
        refine go_icmp_ne (t := 13) (q := 9) (gDec iX11_coordinate_ok 3 rfl) (by decide) rfl (fun c6 => ?_) (fun c6 => False.elim (h1 c6))
        refine go_iconst (v := nI 0) (q := 14) (gDec iX11_coordinate_ok 6 rfl) (by decide) rfl ?_
        refine go_istore_n (q := 15) (gDec iX11_coordinate_ok 7 rfl) rfl (by decide) rfl ?_
        refine go_aload_n (q := 16) (gDec iX11_coordinate_ok 8 rfl) rfl rfl rfl ?_
        refine go_dup (q := 17) (gDec iX11_coordinate_ok 9 rfl) rfl rfl ?_
        refine go_geti (q := 20) fX11_244 (gDec iX11_coordinate_ok 10 rfl) rfl (by decide) rfl ?_
        refine go_top (v' := nI p) (rfl) ?_
        refine go_iload_n (q := 21) (gDec iX11_coordinate_ok 11 rfl) rfl rfl rfl ?_
        refine go_if_eq (t := 35) (q := 24) (gDec iX11_coordinate_ok 12 rfl) (by decide) rfl (fun c21 => ?_) (fun c21 => False.elim (c21 (by decide)))
        refine go_iconst (v := nI 0) (q := 36) (gDec iX11_coordinate_ok 18 rfl) (by decide) rfl ?_
        refine go_iaddN (c := p + 0) (q := 37) (gDec iX11_coordinate_ok 19 rfl) rfl rfl ?_
        refine go_puti (q := 40) fX11_244 gft11 (gDec iX11_coordinate_ok 20 rfl) rfl (by decide) rfl rfl rfl rfl ?_
        refine go_sub (L' := [(0, .ref (κ.2.1 + 376)), (1, .int 0)]) ⟨rfl, rfl, trivial⟩ ?_
        exact lpX11_c4d0 h7 h60 hp h2
      · have e2 : cW1 (σ.1 380) n p false = true := if_pos (Or.inr (by rw [e1]; exact h2))
        rw [show cV (σ.1 380) n p false = 0 from if_pos e2, show cP (σ.1 380) n p false = p from (if_pos e2).trans e1, e2, show cB (σ.1 380) n p false b = b from if_pos e2]
        refine go_aload_n (q := 1) (gDec iX11_coordinate_ok 0 rfl) rfl rfl rfl ?_
        refine go_callV (n2 := 0) (q := 4) kX11_251 (ctX11_here (w := false) h7 h60 hp) (gDec iX11_coordinate_ok 1 rfl) rfl rfl (by decide) rfl rfl rfl (Nat.le_of_ble_eq_true rfl) rfl (gFit_rm (by decide) (by decide)) rfl ?_
        refine go_bipush (v := 45) (q := 6) (gDec iX11_coordinate_ok 2 rfl) (by decide) rfl ?_
        refine go_icmp_ne (t := 13) (q := 9) (gDec iX11_coordinate_ok 3 rfl) (by decide) rfl (fun c6 => ?_) (fun c6 => False.elim (h1 c6))
        refine go_iconst (v := nI 0) (q := 14) (gDec iX11_coordinate_ok 6 rfl) (by decide) rfl ?_
        refine go_istore_n (q := 15) (gDec iX11_coordinate_ok 7 rfl) rfl (by decide) rfl ?_
        refine go_aload_n (q := 16) (gDec iX11_coordinate_ok 8 rfl) rfl rfl rfl ?_
        refine go_dup (q := 17) (gDec iX11_coordinate_ok 9 rfl) rfl rfl ?_
        refine go_geti (q := 20) fX11_244 (gDec iX11_coordinate_ok 10 rfl) rfl (by decide) rfl ?_
        refine go_top (v' := nI p) (rfl) ?_
        refine go_iload_n (q := 21) (gDec iX11_coordinate_ok 11 rfl) rfl rfl rfl ?_
        refine go_if_eq (t := 35) (q := 24) (gDec iX11_coordinate_ok 12 rfl) (by decide) rfl (fun c21 => ?_) (fun c21 => False.elim (c21 (by decide)))
        refine go_iconst (v := nI 0) (q := 36) (gDec iX11_coordinate_ok 18 rfl) (by decide) rfl ?_
        refine go_iaddN (c := p + 0) (q := 37) (gDec iX11_coordinate_ok 19 rfl) rfl rfl ?_
        refine go_puti (q := 40) fX11_244 gft11 (gDec iX11_coordinate_ok 20 rfl) rfl (by decide) rfl rfl rfl rfl ?_
        refine go_sub (L' := [(0, .ref (κ.2.1 + 376)), (1, .int 0)]) ⟨rfl, rfl, trivial⟩ ?_
        exact lpX11_c4x0 h7 h60 hp h2
