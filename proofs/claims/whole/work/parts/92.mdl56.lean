set_option maxHeartbeats 4000000 in
set_option maxRecDepth 100000 in
theorem lpX11_rt {κ : gK} {σ τ : gST} {p : Nat} {w b : Bool} {K : Nat} {rd rm : Nat → Int32} {code : Int32} (hW : gDW τ) (hM : gMR τ (σ.1 377)) (hb : b = true ∨ (gFind (τ.1 4) code 0 (gNg τ) = -1 ∧ gNg τ = 24)) : Go κ mX11_readGlyph (gRm 9 0) (gZm κ (.inl (some (.int 0))) (gPut (gPut (gPut (wr σ p false b K rd rm) 376 7 0) 376 21 (-1)) 376 5 2) 0) 94 [(0, .ref (κ.2.1 + 376)), (1, .int code)] [] (wr σ p false b K rd rm) 0 := by
  cases b with
  | true =>
    refine go_aload_n (q := 95) (gDec iX11_readGlyph_ok 48 rfl) rfl rfl rfl ?_
    refine go_iconst (v := 0) (q := 96) (gDec iX11_readGlyph_ok 49 rfl) (by decide) rfl ?_
    refine go_puti (q := 99) fX11_197 gft11 (gDec iX11_readGlyph_ok 50 rfl) rfl (by decide) rfl rfl rfl rfl ?_
    refine go_aload_n (q := 100) (gDec iX11_readGlyph_ok 51 rfl) rfl rfl rfl ?_
    refine go_aload_n (q := 101) (gDec iX11_readGlyph_ok 52 rfl) rfl rfl rfl ?_
    refine go_geti (q := 104) fX11_247 (gDec iX11_readGlyph_ok 53 rfl) rfl (by decide) rfl ?_
    refine go_top (v' := 0) (rfl) ?_
    refine go_if_eq (t := 114) (q := 107) (gDec iX11_readGlyph_ok 54 rfl) (by decide) rfl (fun c104 => ?_) (fun c104 => False.elim (c104 rfl))
    refine go_iconst (v := (-1)) (q := 115) (gDec iX11_readGlyph_ok 58 rfl) (by decide) rfl ?_
    refine go_puti (q := 118) fX11_44 gft11 (gDec iX11_readGlyph_ok 59 rfl) rfl (by decide) rfl rfl rfl rfl ?_
    refine go_aload_n (q := 119) (gDec iX11_readGlyph_ok 60 rfl) rfl rfl rfl ?_
    refine go_geti (q := 122) fX11_247 (gDec iX11_readGlyph_ok 61 rfl) rfl (by decide) rfl ?_
    refine go_top (v' := 0) (rfl) ?_
    refine go_if_eq (t := 129) (q := 125) (gDec iX11_readGlyph_ok 62 rfl) (by decide) rfl (fun c122 => ?_) (fun c122 => False.elim (c122 rfl))
    refine go_aload_n (q := 130) (gDec iX11_readGlyph_ok 65 rfl) rfl rfl rfl ?_
    refine go_iload_n (q := 131) (gDec iX11_readGlyph_ok 66 rfl) rfl rfl rfl ?_
    refine go_callV (n2 := 0) (q := 134) kX11_85 (ctX11_withCode (τ := τ) hW hM) (gDec iX11_readGlyph_ok 67 rfl) rfl rfl (by decide) rfl rfl rfl (Nat.le_of_ble_eq_true rfl) rfl (gFit_rm (by decide) (by decide)) rfl ?_
    refine go_istore_n (q := 135) (gDec iX11_readGlyph_ok 68 rfl) rfl (by decide) rfl ?_
    refine go_aload_n (q := 136) (gDec iX11_readGlyph_ok 69 rfl) rfl rfl rfl ?_
    refine go_aload_n (q := 137) (gDec iX11_readGlyph_ok 70 rfl) rfl rfl rfl ?_
    refine go_geti (q := 140) fX11_247 (gDec iX11_readGlyph_ok 71 rfl) rfl (by decide) rfl ?_
    refine go_top (v' := 0) (rfl) ?_
    refine go_if_eq (t := 147) (q := 143) (gDec iX11_readGlyph_ok 72 rfl) (by decide) rfl (fun c140 => ?_) (fun c140 => False.elim (c140 rfl))
    refine go_aload_n (q := 148) (gDec iX11_readGlyph_ok 75 rfl) rfl rfl rfl ?_
    refine go_geti (q := 151) fX11_258 (gDec iX11_readGlyph_ok 76 rfl) rfl (by decide) rfl ?_
    refine go_top (v' := 1) (rfl) ?_
    refine go_if_ne (t := 169) (q := 154) (gDec iX11_readGlyph_ok 77 rfl) (by decide) rfl (fun c151 => ?_) (fun c151 => False.elim (absurd c151 (by decide)))
    refine go_iconst (v := nI 2) (q := 170) (gDec iX11_readGlyph_ok 86 rfl) (by decide) rfl ?_
    refine go_goto (t := 174) (gDec iX11_readGlyph_ok 87 rfl) (by decide) ?_
    refine go_puti (q := 177) fX11_54 gft11 (gDec iX11_readGlyph_ok 89 rfl) rfl (by decide) rfl rfl rfl rfl ?_
    refine go_aload_n (q := 178) (gDec iX11_readGlyph_ok 90 rfl) rfl rfl rfl ?_
    refine go_geti (q := 181) fX11_54 (gDec iX11_readGlyph_ok 91 rfl) rfl (by decide) rfl ?_
    refine go_top (v' := nI 2) rfl ?_
    refine go_if_le (t := 186) (q := 184) (gDec iX11_readGlyph_ok 92 rfl) (by decide) rfl (fun c181 => False.elim (absurd c181 (by decide))) (fun c181 => ?_)
    refine go_iconst (v := nI 0) (q := 185) (gDec iX11_readGlyph_ok 93 rfl) (by decide) rfl ?_
    exact go_ireturn (gDec iX11_readGlyph_ok 94 rfl) rfl rfl rfl rfl (by decide)
  | false =>
    obtain ⟨h1, h2⟩ := hb.resolve_left (by decide)
    refine go_aload_n (q := 95) (gDec iX11_readGlyph_ok 48 rfl) rfl rfl rfl ?_
    refine go_iconst (v := 0) (q := 96) (gDec iX11_readGlyph_ok 49 rfl) (by decide) rfl ?_
    refine go_puti (q := 99) fX11_197 gft11 (gDec iX11_readGlyph_ok 50 rfl) rfl (by decide) rfl rfl rfl rfl ?_
    refine go_aload_n (q := 100) (gDec iX11_readGlyph_ok 51 rfl) rfl rfl rfl ?_
    refine go_aload_n (q := 101) (gDec iX11_readGlyph_ok 52 rfl) rfl rfl rfl ?_
    refine go_geti (q := 104) fX11_247 (gDec iX11_readGlyph_ok 53 rfl) rfl (by decide) rfl ?_
    refine go_top (v' := 0) (rfl) ?_
    refine go_if_eq (t := 114) (q := 107) (gDec iX11_readGlyph_ok 54 rfl) (by decide) rfl (fun c104 => ?_) (fun c104 => False.elim (c104 rfl))
    refine go_iconst (v := (-1)) (q := 115) (gDec iX11_readGlyph_ok 58 rfl) (by decide) rfl ?_
    refine go_puti (q := 118) fX11_44 gft11 (gDec iX11_readGlyph_ok 59 rfl) rfl (by decide) rfl rfl rfl rfl ?_
    refine go_aload_n (q := 119) (gDec iX11_readGlyph_ok 60 rfl) rfl rfl rfl ?_
    refine go_geti (q := 122) fX11_247 (gDec iX11_readGlyph_ok 61 rfl) rfl (by decide) rfl ?_
    refine go_top (v' := 0) (rfl) ?_
    refine go_if_eq (t := 129) (q := 125) (gDec iX11_readGlyph_ok 62 rfl) (by decide) rfl (fun c122 => ?_) (fun c122 => False.elim (c122 rfl))
    refine go_aload_n (q := 130) (gDec iX11_readGlyph_ok 65 rfl) rfl rfl rfl ?_
    refine go_iload_n (q := 131) (gDec iX11_readGlyph_ok 66 rfl) rfl rfl rfl ?_
    refine go_callV (n2 := 0) (q := 134) kX11_85 (ctX11_withCode (τ := τ) hW hM) (gDec iX11_readGlyph_ok 67 rfl) rfl rfl (by decide) rfl rfl rfl (Nat.le_of_ble_eq_true rfl) rfl (gFit_rm (by decide) (by decide)) rfl ?_
    refine go_top (v' := -1) (h1) ?_
    refine go_istore_n (q := 135) (gDec iX11_readGlyph_ok 68 rfl) rfl (by decide) rfl ?_
    refine go_aload_n (q := 136) (gDec iX11_readGlyph_ok 69 rfl) rfl rfl rfl ?_
    refine go_aload_n (q := 137) (gDec iX11_readGlyph_ok 70 rfl) rfl rfl rfl ?_
    refine go_geti (q := 140) fX11_247 (gDec iX11_readGlyph_ok 71 rfl) rfl (by decide) rfl ?_
    refine go_top (v' := 0) (rfl) ?_
    refine go_if_eq (t := 147) (q := 143) (gDec iX11_readGlyph_ok 72 rfl) (by decide) rfl (fun c140 => ?_) (fun c140 => False.elim (c140 rfl))
    refine go_aload_n (q := 148) (gDec iX11_readGlyph_ok 75 rfl) rfl rfl rfl ?_
    refine go_geti (q := 151) fX11_258 (gDec iX11_readGlyph_ok 76 rfl) rfl (by decide) rfl ?_
    refine go_top (v' := 0) (rfl) ?_
    refine go_if_ne (t := 169) (q := 154) (gDec iX11_readGlyph_ok 77 rfl) (by decide) rfl (fun c151 => False.elim (c151 rfl)) (fun c151 => ?_)
    refine go_iload_n (q := 155) (gDec iX11_readGlyph_ok 78 rfl) rfl rfl rfl ?_
    refine go_if_ge (t := 173) (q := 158) (gDec iX11_readGlyph_ok 79 rfl) (by decide) rfl (fun c155 => False.elim (absurd c155 (by decide))) (fun c155 => ?_)
    refine go_aload_n (q := 159) (gDec iX11_readGlyph_ok 80 rfl) rfl rfl rfl ?_
    refine go_getr (r' := 377) (q := 162) fX11_9 (gDec iX11_readGlyph_ok 81 rfl) rfl (by decide) rfl ?_
    refine go_iconst (v := nI 0) (q := 163) (gDec iX11_readGlyph_ok 82 rfl) (by decide) rfl ?_
    refine go_ialdN (q := 164) (gDec iX11_readGlyph_ok 83 rfl) rfl (by decide) (by omega) (by decide) rfl ?_
    refine go_top (v' := 24) ((hM.ng hW).trans (by rw [h2]; rfl)) ?_
    refine go_bipush (v := 24) (q := 166) (gDec iX11_readGlyph_ok 84 rfl) (by decide) rfl ?_
    refine go_icmp_ne (t := 173) (q := 169) (gDec iX11_readGlyph_ok 85 rfl) (by decide) rfl (fun c166 => False.elim (c166 rfl)) (fun c166 => ?_)
    refine go_iconst (v := nI 2) (q := 170) (gDec iX11_readGlyph_ok 86 rfl) (by decide) rfl ?_
    refine go_goto (t := 174) (gDec iX11_readGlyph_ok 87 rfl) (by decide) ?_
    refine go_puti (q := 177) fX11_54 gft11 (gDec iX11_readGlyph_ok 89 rfl) rfl (by decide) rfl rfl rfl rfl ?_
    refine go_aload_n (q := 178) (gDec iX11_readGlyph_ok 90 rfl) rfl rfl rfl ?_
    refine go_geti (q := 181) fX11_54 (gDec iX11_readGlyph_ok 91 rfl) rfl (by decide) rfl ?_
    refine go_top (v' := nI 2) rfl ?_
    refine go_if_le (t := 186) (q := 184) (gDec iX11_readGlyph_ok 92 rfl) (by decide) rfl (fun c181 => False.elim (absurd c181 (by decide))) (fun c181 => ?_)
    refine go_iconst (v := nI 0) (q := 185) (gDec iX11_readGlyph_ok 93 rfl) (by decide) rfl ?_
    exact go_ireturn (gDec iX11_readGlyph_ok 94 rfl) rfl rfl rfl rfl (by decide)
