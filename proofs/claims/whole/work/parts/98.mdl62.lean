set_option maxHeartbeats 4000000 in
set_option maxRecDepth 100000 in
theorem lpX11_rzf {κ : gK} {V : gST} {g K n : Nat} {code : Int32} (hg : g < 24) (hK : K ≤ 3) (hk : V.1 376 24 = nI K) (hn : V.1 376 4 = nI n) (h8 : n ≤ 8) : Go κ mX11_readGlyph (gRm 9 0) (gZm κ (.inl (some (.int (nI g)))) (rzU (gChg V n) g K) 0) 186 [(0, .ref (κ.2.1 + 376)), (1, .int code), (2, .int (nI g))] [] V 0 := by
  refine go_aload_n (q := 187) (gDec iX11_readGlyph_ok 95 rfl) rfl rfl rfl ?_
  refine go_callV (n2 := 0) (q := 190) kX11_89 (ctX11_change (n := n) hn h8) (gDec iX11_readGlyph_ok 96 rfl) rfl rfl (by decide) rfl rfl rfl (Nat.le_of_ble_eq_true rfl) rfl (gFit_rm (by decide) (by decide)) rfl ?_
  refine go_iload_n (q := 191) (gDec iX11_readGlyph_ok 97 rfl) rfl rfl rfl ?_
  refine go_if_ge (t := 202) (q := 194) (gDec iX11_readGlyph_ok 98 rfl) (by decide) rfl (fun c191 => ?_) (fun c191 => False.elim (c191 (nI_pos'' (by omega))))
  refine go_iload_n (q := 203) (gDec iX11_readGlyph_ok 103 rfl) rfl rfl rfl ?_
  refine go_istore_n (q := 204) (gDec iX11_readGlyph_ok 104 rfl) rfl (by decide) rfl ?_
  refine go_sub (L' := [(0, .ref (κ.2.1 + 376)), (1, .int code), (2, .int (nI g)), (3, .int (nI g))]) ⟨rfl, rfl, rfl, rfl, trivial⟩ ?_
  exact lpX11_rz3 hg hK ((gChg_f V n (by decide)).trans hk)

set_option maxHeartbeats 4000000 in
set_option maxRecDepth 100000 in
theorem lpX11_rzn {κ : gK} {V : gST} {g K n : Nat} {code : Int32} (hg : g < 24) (hK : K ≤ 3) (hk : V.1 376 24 = nI K) (hn : V.1 376 4 = nI n) (h8 : n ≤ 8) (h0 : V.1 377 0 = nI g) : Go κ mX11_readGlyph (gRm 9 0) (gZm κ (.inl (some (.int (nI g)))) (rzU (gNw (gChg V n) g code) g K) 0) 186 [(0, .ref (κ.2.1 + 376)), (1, .int code), (2, .int (-1))] [] V 0 := by
  refine go_aload_n (q := 187) (gDec iX11_readGlyph_ok 95 rfl) rfl rfl rfl ?_
  refine go_callV (n2 := 0) (q := 190) kX11_89 (ctX11_change (n := n) hn h8) (gDec iX11_readGlyph_ok 96 rfl) rfl rfl (by decide) rfl rfl rfl (Nat.le_of_ble_eq_true rfl) rfl (gFit_rm (by decide) (by decide)) rfl ?_
  refine go_iload_n (q := 191) (gDec iX11_readGlyph_ok 97 rfl) rfl rfl rfl ?_
  refine go_if_ge (t := 202) (q := 194) (gDec iX11_readGlyph_ok 98 rfl) (by decide) rfl (fun c191 => False.elim (absurd c191 (by decide))) (fun c191 => ?_)
  refine go_aload_n (q := 195) (gDec iX11_readGlyph_ok 99 rfl) rfl rfl rfl ?_
  refine go_iload_n (q := 196) (gDec iX11_readGlyph_ok 100 rfl) rfl rfl rfl ?_
  refine go_callV (n2 := 0) (q := 199) kX11_92 (ctX11_newGlyph (n := g) ((congrFun (gChg_o V n (by decide) (by decide)) 0).trans h0) hg) (gDec iX11_readGlyph_ok 101 rfl) rfl rfl (by decide) rfl rfl rfl (Nat.le_of_ble_eq_true rfl) rfl (gFit_rm (by decide) (by decide)) rfl ?_
  refine go_goto (t := 203) (gDec iX11_readGlyph_ok 102 rfl) (by decide) ?_
  refine go_istore_n (q := 204) (gDec iX11_readGlyph_ok 104 rfl) rfl (by decide) rfl ?_
  refine go_sub (L' := [(0, .ref (κ.2.1 + 376)), (1, .int code), (2, .int (-1)), (3, .int (nI g))]) ⟨rfl, rfl, rfl, rfl, trivial⟩ ?_
  exact lpX11_rz3 hg hK ((congrFun (gNw_o _ _ _ (by decide)) 24).trans ((gChg_f V n (by decide)).trans hk))

set_option maxHeartbeats 4000000 in
set_option maxRecDepth 100000 in
theorem lpX11_raf {κ : gK} {Z : gZ} {σ τ : gST} {p K k : Nat} {rd rm : Nat → Int32} {code : Int32} (hW : gDW τ) (hM : gMR τ (σ.1 377)) (h1 : gFind (τ.1 4) code 0 (gNg τ) = nI k) (hk : k < 24) (h : Go κ mX11_readGlyph (gRm 9 0) Z 186 [(0, .ref (κ.2.1 + 376)), (1, .int code), (2, .int (nI k))] [] (gPut (gPut (gPut (wr σ p false false K rd rm) 376 7 0) 376 21 (-1)) 376 5 0) 0) : Go κ mX11_readGlyph (gRm 9 0) Z 94 [(0, .ref (κ.2.1 + 376)), (1, .int code)] [] (wr σ p false false K rd rm) 0 := by
  refine go_aload_n (q := 95) (gDec iX11_readGlyph_ok 48 rfl) rfl rfl rfl ?_
  refine go_iconst (v := 0) (q := 96) (gDec iX11_readGlyph_ok 49 rfl) (by decide) rfl ?_
  refine go_puti (q := 99) fX11_197 gft11 (gDec iX11_readGlyph_ok 50 rfl) rfl (by decide) rfl rfl rfl rfl ?_
  refine go_aload_n (q := 100) (gDec iX11_readGlyph_ok 51 rfl) rfl rfl rfl ?_
  refine go_aload_n (q := 101) (gDec iX11_readGlyph_ok 52 rfl) rfl rfl rfl ?_
  refine go_geti (q := 104) fX11_247 (gDec iX11_readGlyph_ok 53 rfl) rfl (by decide) rfl ?_
  refine go_top (v' := 0) (rfl) ?_
  refine go_if_eq (t := 114) (q := 107) (gDec iX11_readGlyph_ok 54 rfl) (by decide) rfl (fun c104 => ?_) (fun c104 => False.elim (c104 rfl))
  refine go_iconst (v := (-1)) (q := 115) (gDec iX11_readGlyph_ok 58 rfl) (by decide) rfl ?_
  refine go_puti (q := 118) fX11_44 gft11 (gDec iX11_readGlyph_ok 59 rfl) rfl (by decide) rfl rfl rfl rfl ?_
  refine go_aload_n (q := 119) (gDec iX11_readGlyph_ok 60 rfl) rfl rfl rfl ?_
  refine go_geti (q := 122) fX11_247 (gDec iX11_readGlyph_ok 61 rfl) rfl (by decide) rfl ?_
  refine go_top (v' := 0) (rfl) ?_
  refine go_if_eq (t := 129) (q := 125) (gDec iX11_readGlyph_ok 62 rfl) (by decide) rfl (fun c122 => ?_) (fun c122 => False.elim (c122 rfl))
  refine go_aload_n (q := 130) (gDec iX11_readGlyph_ok 65 rfl) rfl rfl rfl ?_
  refine go_iload_n (q := 131) (gDec iX11_readGlyph_ok 66 rfl) rfl rfl rfl ?_
  refine go_callV (n2 := 0) (q := 134) kX11_85 (ctX11_withCode (τ := τ) hW hM) (gDec iX11_readGlyph_ok 67 rfl) rfl rfl (by decide) rfl rfl rfl (Nat.le_of_ble_eq_true rfl) rfl (gFit_rm (by decide) (by decide)) rfl ?_
  refine go_top (v' := nI k) (h1) ?_
  refine go_istore_n (q := 135) (gDec iX11_readGlyph_ok 68 rfl) rfl (by decide) rfl ?_
  refine go_aload_n (q := 136) (gDec iX11_readGlyph_ok 69 rfl) rfl rfl rfl ?_
  refine go_aload_n (q := 137) (gDec iX11_readGlyph_ok 70 rfl) rfl rfl rfl ?_
  refine go_geti (q := 140) fX11_247 (gDec iX11_readGlyph_ok 71 rfl) rfl (by decide) rfl ?_
  refine go_top (v' := 0) (rfl) ?_
  refine go_if_eq (t := 147) (q := 143) (gDec iX11_readGlyph_ok 72 rfl) (by decide) rfl (fun c140 => ?_) (fun c140 => False.elim (c140 rfl))
  refine go_aload_n (q := 148) (gDec iX11_readGlyph_ok 75 rfl) rfl rfl rfl ?_
  refine go_geti (q := 151) fX11_258 (gDec iX11_readGlyph_ok 76 rfl) rfl (by decide) rfl ?_
  refine go_top (v' := 0) (rfl) ?_
  refine go_if_ne (t := 169) (q := 154) (gDec iX11_readGlyph_ok 77 rfl) (by decide) rfl (fun c151 => False.elim (c151 rfl)) (fun c151 => ?_)
  refine go_iload_n (q := 155) (gDec iX11_readGlyph_ok 78 rfl) rfl rfl rfl ?_
  refine go_if_ge (t := 173) (q := 158) (gDec iX11_readGlyph_ok 79 rfl) (by decide) rfl (fun c155 => ?_) (fun c155 => False.elim (c155 (nI_pos'' (by omega))))
  refine go_iconst (v := 0) (q := 174) (gDec iX11_readGlyph_ok 88 rfl) (by decide) rfl ?_
  refine go_puti (q := 177) fX11_54 gft11 (gDec iX11_readGlyph_ok 89 rfl) rfl (by decide) rfl rfl rfl rfl ?_
  refine go_aload_n (q := 178) (gDec iX11_readGlyph_ok 90 rfl) rfl rfl rfl ?_
  refine go_geti (q := 181) fX11_54 (gDec iX11_readGlyph_ok 91 rfl) rfl (by decide) rfl ?_
  refine go_top (v' := 0) (rfl) ?_
  refine go_if_le (t := 186) (q := 184) (gDec iX11_readGlyph_ok 92 rfl) (by decide) rfl (fun c181 => ?_) (fun c181 => False.elim (c181 (by decide)))
  refine go_sub (L' := [(0, .ref (κ.2.1 + 376)), (1, .int code), (2, .int (nI k))]) ⟨rfl, rfl, rfl, trivial⟩ ?_
  exact h

set_option maxHeartbeats 4000000 in
set_option maxRecDepth 100000 in
theorem lpX11_ran {κ : gK} {Z : gZ} {σ τ : gST} {p K : Nat} {rd rm : Nat → Int32} {code : Int32} (hW : gDW τ) (hM : gMR τ (σ.1 377)) (h1 : gFind (τ.1 4) code 0 (gNg τ) = -1) (h2 : gNg τ < 24) (h : Go κ mX11_readGlyph (gRm 9 0) Z 186 [(0, .ref (κ.2.1 + 376)), (1, .int code), (2, .int (-1))] [] (gPut (gPut (gPut (wr σ p false false K rd rm) 376 7 0) 376 21 (-1)) 376 5 0) 0) : Go κ mX11_readGlyph (gRm 9 0) Z 94 [(0, .ref (κ.2.1 + 376)), (1, .int code)] [] (wr σ p false false K rd rm) 0 := by
  refine go_aload_n (q := 95) (gDec iX11_readGlyph_ok 48 rfl) rfl rfl rfl ?_
  refine go_iconst (v := 0) (q := 96) (gDec iX11_readGlyph_ok 49 rfl) (by decide) rfl ?_
  refine go_puti (q := 99) fX11_197 gft11 (gDec iX11_readGlyph_ok 50 rfl) rfl (by decide) rfl rfl rfl rfl ?_
  refine go_aload_n (q := 100) (gDec iX11_readGlyph_ok 51 rfl) rfl rfl rfl ?_
  refine go_aload_n (q := 101) (gDec iX11_readGlyph_ok 52 rfl) rfl rfl rfl ?_
  refine go_geti (q := 104) fX11_247 (gDec iX11_readGlyph_ok 53 rfl) rfl (by decide) rfl ?_
  refine go_top (v' := 0) (rfl) ?_
  refine go_if_eq (t := 114) (q := 107) (gDec iX11_readGlyph_ok 54 rfl) (by decide) rfl (fun c104 => ?_) (fun c104 => False.elim (c104 rfl))
  refine go_iconst (v := (-1)) (q := 115) (gDec iX11_readGlyph_ok 58 rfl) (by decide) rfl ?_
  refine go_puti (q := 118) fX11_44 gft11 (gDec iX11_readGlyph_ok 59 rfl) rfl (by decide) rfl rfl rfl rfl ?_
  refine go_aload_n (q := 119) (gDec iX11_readGlyph_ok 60 rfl) rfl rfl rfl ?_
  refine go_geti (q := 122) fX11_247 (gDec iX11_readGlyph_ok 61 rfl) rfl (by decide) rfl ?_
  refine go_top (v' := 0) (rfl) ?_
  refine go_if_eq (t := 129) (q := 125) (gDec iX11_readGlyph_ok 62 rfl) (by decide) rfl (fun c122 => ?_) (fun c122 => False.elim (c122 rfl))
  refine go_aload_n (q := 130) (gDec iX11_readGlyph_ok 65 rfl) rfl rfl rfl ?_
  refine go_iload_n (q := 131) (gDec iX11_readGlyph_ok 66 rfl) rfl rfl rfl ?_
  refine go_callV (n2 := 0) (q := 134) kX11_85 (ctX11_withCode (τ := τ) hW hM) (gDec iX11_readGlyph_ok 67 rfl) rfl rfl (by decide) rfl rfl rfl (Nat.le_of_ble_eq_true rfl) rfl (gFit_rm (by decide) (by decide)) rfl ?_
  refine go_top (v' := -1) (h1) ?_
  refine go_istore_n (q := 135) (gDec iX11_readGlyph_ok 68 rfl) rfl (by decide) rfl ?_
  refine go_aload_n (q := 136) (gDec iX11_readGlyph_ok 69 rfl) rfl rfl rfl ?_
  refine go_aload_n (q := 137) (gDec iX11_readGlyph_ok 70 rfl) rfl rfl rfl ?_
  refine go_geti (q := 140) fX11_247 (gDec iX11_readGlyph_ok 71 rfl) rfl (by decide) rfl ?_
  refine go_top (v' := 0) (rfl) ?_
  refine go_if_eq (t := 147) (q := 143) (gDec iX11_readGlyph_ok 72 rfl) (by decide) rfl (fun c140 => ?_) (fun c140 => False.elim (c140 rfl))
  refine go_aload_n (q := 148) (gDec iX11_readGlyph_ok 75 rfl) rfl rfl rfl ?_
  refine go_geti (q := 151) fX11_258 (gDec iX11_readGlyph_ok 76 rfl) rfl (by decide) rfl ?_
  refine go_top (v' := 0) (rfl) ?_
  refine go_if_ne (t := 169) (q := 154) (gDec iX11_readGlyph_ok 77 rfl) (by decide) rfl (fun c151 => False.elim (c151 rfl)) (fun c151 => ?_)
  refine go_iload_n (q := 155) (gDec iX11_readGlyph_ok 78 rfl) rfl rfl rfl ?_
  refine go_if_ge (t := 173) (q := 158) (gDec iX11_readGlyph_ok 79 rfl) (by decide) rfl (fun c155 => False.elim (absurd c155 (by decide))) (fun c155 => ?_)
  refine go_aload_n (q := 159) (gDec iX11_readGlyph_ok 80 rfl) rfl rfl rfl ?_
  refine go_getr (r' := 377) (q := 162) fX11_9 (gDec iX11_readGlyph_ok 81 rfl) rfl (by decide) rfl ?_
  refine go_iconst (v := nI 0) (q := 163) (gDec iX11_readGlyph_ok 82 rfl) (by decide) rfl ?_
  refine go_ialdN (q := 164) (gDec iX11_readGlyph_ok 83 rfl) rfl (by decide) (by omega) (by decide) rfl ?_
  refine go_top (v' := nI (gNg τ)) (hM.ng hW) ?_
  refine go_bipush (v := nI 24) (q := 166) (gDec iX11_readGlyph_ok 84 rfl) (by decide) rfl ?_
  refine go_icmp_ne (t := 173) (q := 169) (gDec iX11_readGlyph_ok 85 rfl) (by decide) rfl (fun c166 => ?_) (fun c166 => False.elim (absurd ((nI_eq (a := gNg τ) (b := 24) (by omega) (by decide)).mp c166) (by omega)))
  refine go_iconst (v := 0) (q := 174) (gDec iX11_readGlyph_ok 88 rfl) (by decide) rfl ?_
  refine go_puti (q := 177) fX11_54 gft11 (gDec iX11_readGlyph_ok 89 rfl) rfl (by decide) rfl rfl rfl rfl ?_
  refine go_aload_n (q := 178) (gDec iX11_readGlyph_ok 90 rfl) rfl rfl rfl ?_
  refine go_geti (q := 181) fX11_54 (gDec iX11_readGlyph_ok 91 rfl) rfl (by decide) rfl ?_
  refine go_top (v' := 0) (rfl) ?_
  refine go_if_le (t := 186) (q := 184) (gDec iX11_readGlyph_ok 92 rfl) (by decide) rfl (fun c181 => ?_) (fun c181 => False.elim (c181 (by decide)))
  refine go_sub (L' := [(0, .ref (κ.2.1 + 376)), (1, .int code), (2, .int (-1))]) ⟨rfl, rfl, rfl, trivial⟩ ?_
  exact h
