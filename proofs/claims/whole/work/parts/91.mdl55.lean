set_option maxHeartbeats 4000000 in
set_option maxRecDepth 100000 in
theorem lpX11_rw {κ : gK} {σ : gST} {p : Nat} {w b : Bool} {K : Nat} {rd rm : Nat → Int32} {code : Int32} : Go κ mX11_readGlyph (gRm 9 0) (gZm κ (.inl (some (.int 0))) (gPut (gPut (gPut (wr σ p true b K rd rm) 376 7 0) 376 21 (nI p)) 376 5 1) 0) 94 [(0, .ref (κ.2.1 + 376)), (1, .int code)] [] (wr σ p true b K rd rm) 0 := by
  refine go_aload_n (q := 95) (gDec iX11_readGlyph_ok 48 rfl) rfl rfl rfl ?_
  refine go_iconst (v := 0) (q := 96) (gDec iX11_readGlyph_ok 49 rfl) (by decide) rfl ?_
  refine go_puti (q := 99) fX11_197 gft11 (gDec iX11_readGlyph_ok 50 rfl) rfl (by decide) rfl rfl rfl rfl ?_
  refine go_aload_n (q := 100) (gDec iX11_readGlyph_ok 51 rfl) rfl rfl rfl ?_
  refine go_aload_n (q := 101) (gDec iX11_readGlyph_ok 52 rfl) rfl rfl rfl ?_
  refine go_geti (q := 104) fX11_247 (gDec iX11_readGlyph_ok 53 rfl) rfl (by decide) rfl ?_
  refine go_top (v' := 1) (rfl) ?_
  refine go_if_eq (t := 114) (q := 107) (gDec iX11_readGlyph_ok 54 rfl) (by decide) rfl (fun c104 => False.elim (absurd c104 (by decide))) (fun c104 => ?_)
  refine go_aload_n (q := 108) (gDec iX11_readGlyph_ok 55 rfl) rfl rfl rfl ?_
  refine go_geti (q := 111) fX11_244 (gDec iX11_readGlyph_ok 56 rfl) rfl (by decide) rfl ?_
  refine go_top (v' := nI p) (rfl) ?_
  refine go_goto (t := 115) (gDec iX11_readGlyph_ok 57 rfl) (by decide) ?_
  refine go_puti (q := 118) fX11_44 gft11 (gDec iX11_readGlyph_ok 59 rfl) rfl (by decide) rfl rfl rfl rfl ?_
  refine go_aload_n (q := 119) (gDec iX11_readGlyph_ok 60 rfl) rfl rfl rfl ?_
  refine go_geti (q := 122) fX11_247 (gDec iX11_readGlyph_ok 61 rfl) rfl (by decide) rfl ?_
  refine go_top (v' := 1) (rfl) ?_
  refine go_if_eq (t := 129) (q := 125) (gDec iX11_readGlyph_ok 62 rfl) (by decide) rfl (fun c122 => False.elim (absurd c122 (by decide))) (fun c122 => ?_)
  refine go_iconst (v := (-1)) (q := 126) (gDec iX11_readGlyph_ok 63 rfl) (by decide) rfl ?_
  refine go_goto (t := 134) (gDec iX11_readGlyph_ok 64 rfl) (by decide) ?_
  refine go_istore_n (q := 135) (gDec iX11_readGlyph_ok 68 rfl) rfl (by decide) rfl ?_
  refine go_aload_n (q := 136) (gDec iX11_readGlyph_ok 69 rfl) rfl rfl rfl ?_
  refine go_aload_n (q := 137) (gDec iX11_readGlyph_ok 70 rfl) rfl rfl rfl ?_
  refine go_geti (q := 140) fX11_247 (gDec iX11_readGlyph_ok 71 rfl) rfl (by decide) rfl ?_
  refine go_top (v' := 1) (rfl) ?_
  refine go_if_eq (t := 147) (q := 143) (gDec iX11_readGlyph_ok 72 rfl) (by decide) rfl (fun c140 => False.elim (absurd c140 (by decide))) (fun c140 => ?_)
  refine go_iconst (v := nI 1) (q := 144) (gDec iX11_readGlyph_ok 73 rfl) (by decide) rfl ?_
  refine go_goto (t := 174) (gDec iX11_readGlyph_ok 74 rfl) (by decide) ?_
  refine go_puti (q := 177) fX11_54 gft11 (gDec iX11_readGlyph_ok 89 rfl) rfl (by decide) rfl rfl rfl rfl ?_
  refine go_aload_n (q := 178) (gDec iX11_readGlyph_ok 90 rfl) rfl rfl rfl ?_
  refine go_geti (q := 181) fX11_54 (gDec iX11_readGlyph_ok 91 rfl) rfl (by decide) rfl ?_
  refine go_top (v' := nI 1) rfl ?_
  refine go_if_le (t := 186) (q := 184) (gDec iX11_readGlyph_ok 92 rfl) (by decide) rfl (fun c181 => False.elim (absurd c181 (by decide))) (fun c181 => ?_)
  refine go_iconst (v := nI 0) (q := 185) (gDec iX11_readGlyph_ok 93 rfl) (by decide) rfl ?_
  exact go_ireturn (gDec iX11_readGlyph_ok 94 rfl) rfl rfl rfl rfl (by decide)
