set_option maxHeartbeats 4000000 in
set_option maxRecDepth 100000 in
theorem lpX11_rsy {κ : gK} {Z : gZ} {σ : gST} {n : Nat} (h7 : σ.1 376 7 = nI n) (h60 : n ≤ 60) (hc : 33 ≤ (hr (σ.1 380) n 0).toInt ∧ (hr (σ.1 380) n 0).toInt ≤ 126) (h : Go κ mX11_readGlyph (gRm 9 0) Z 62 [(0, .ref (κ.2.1 + 376)), (1, .int (hr (σ.1 380) n 0))] [] (wr σ 1 false false 0 (σ.1 388) (σ.1 389)) 0) : Go κ mX11_readGlyph (gRm 9 0) Z 0 [(0, .ref (κ.2.1 + 376))] [] σ 0 := by
  refine go_aload_n (q := 1) (gDec iX11_readGlyph_ok 0 rfl) rfl rfl rfl ?_
  refine go_iconst (v := 0) (q := 2) (gDec iX11_readGlyph_ok 1 rfl) (by decide) rfl ?_
  refine go_puti (q := 5) fX11_244 gft11 (gDec iX11_readGlyph_ok 2 rfl) rfl (by decide) rfl rfl rfl rfl ?_
  refine go_aload_n (q := 6) (gDec iX11_readGlyph_ok 3 rfl) rfl rfl rfl ?_
  refine go_iconst (v := 0) (q := 7) (gDec iX11_readGlyph_ok 4 rfl) (by decide) rfl ?_
  refine go_puti (q := 10) fX11_267 gft11 (gDec iX11_readGlyph_ok 5 rfl) rfl (by decide) rfl rfl rfl rfl ?_
  refine go_aload_n (q := 11) (gDec iX11_readGlyph_ok 6 rfl) rfl rfl rfl ?_
  refine go_iconst (v := 0) (q := 12) (gDec iX11_readGlyph_ok 7 rfl) (by decide) rfl ?_
  refine go_puti (q := 15) fX11_258 gft11 (gDec iX11_readGlyph_ok 8 rfl) rfl (by decide) rfl rfl rfl rfl ?_
  refine go_aload_n (q := 16) (gDec iX11_readGlyph_ok 9 rfl) rfl rfl rfl ?_
  refine go_callV (n2 := 0) (q := 19) kX11_251 (ctX11_here0 (σ := (gPut (gPut (gPut σ 376 18 0) 376 24 0) 376 20 0)) (p := 0) (n := n) rfl h7 h60 (Nat.zero_le _)) (gDec iX11_readGlyph_ok 10 rfl) rfl rfl (by decide) rfl rfl rfl (Nat.le_of_ble_eq_true rfl) rfl (gFit_rm (by decide) (by decide)) rfl ?_
  refine go_istore_n (q := 20) (gDec iX11_readGlyph_ok 11 rfl) rfl (by decide) rfl ?_
  refine go_aload_n (q := 21) (gDec iX11_readGlyph_ok 12 rfl) rfl rfl rfl ?_
  refine go_iload_n (q := 22) (gDec iX11_readGlyph_ok 13 rfl) rfl rfl rfl ?_
  refine go_i2l (q := 23) (gDec iX11_readGlyph_ok 14 rfl) rfl ?_
  refine go_bipush (v := nI 33) (q := 25) (gDec iX11_readGlyph_ok 15 rfl) (by decide) rfl ?_
  refine go_bipush (v := nI 126) (q := 27) (gDec iX11_readGlyph_ok 16 rfl) (by decide) rfl ?_
  refine go_callS (n2 := 0) (q := 30) kX11_57 ctX11_in (gDec iX11_readGlyph_ok 17 rfl) rfl rfl (Nat.le_of_ble_eq_true rfl) rfl (gFit_rm (by decide) (by decide)) rfl ?_
  refine go_top (v' := 1) (gWi_t (by (try rw [i2l_toInt]); exact hc)) ?_
  refine go_if_ne (t := 37) (q := 33) (gDec iX11_readGlyph_ok 18 rfl) (by decide) rfl (fun c30 => ?_) (fun c30 => False.elim (absurd c30 (by decide)))
  refine go_iconst (v := nI 0) (q := 38) (gDec iX11_readGlyph_ok 21 rfl) (by decide) rfl ?_
  refine go_puti (q := 41) fX11_247 gft11 (gDec iX11_readGlyph_ok 22 rfl) rfl (by decide) rfl rfl rfl rfl ?_
  refine go_w (show _ = (wr σ 0 false false 0 (σ.1 388) (σ.1 389)) from wr_0 (w := false)) ?_
  refine go_aload_n (q := 42) (gDec iX11_readGlyph_ok 23 rfl) rfl rfl rfl ?_
  refine go_dup (q := 43) (gDec iX11_readGlyph_ok 24 rfl) rfl rfl ?_
  refine go_geti (q := 46) fX11_244 (gDec iX11_readGlyph_ok 25 rfl) rfl (by decide) rfl ?_
  refine go_top (v' := nI 0) (rfl) ?_
  refine go_aload_n (q := 47) (gDec iX11_readGlyph_ok 26 rfl) rfl rfl rfl ?_
  refine go_geti (q := 50) fX11_247 (gDec iX11_readGlyph_ok 27 rfl) rfl (by decide) rfl ?_
  refine go_top (v' := 0) (rfl) ?_
  refine go_if_eq (t := 57) (q := 53) (gDec iX11_readGlyph_ok 28 rfl) (by decide) rfl (fun c50 => ?_) (fun c50 => False.elim (c50 rfl))
  refine go_iconst (v := nI 1) (q := 58) (gDec iX11_readGlyph_ok 31 rfl) (by decide) rfl ?_
  refine go_iaddN (c := 0 + 1) (q := 59) (gDec iX11_readGlyph_ok 32 rfl) rfl rfl ?_
  refine go_puti (q := 62) fX11_244 gft11 (gDec iX11_readGlyph_ok 33 rfl) rfl (by decide) rfl rfl rfl rfl ?_
  refine go_sub (L' := [(0, .ref (κ.2.1 + 376)), (1, .int (hr (σ.1 380) n 0))]) ⟨rfl, rfl, trivial⟩ ?_
  exact h

set_option maxHeartbeats 4000000 in
set_option maxRecDepth 100000 in
theorem lpX11_rsn {κ : gK} {Z : gZ} {σ : gST} {n : Nat} (h7 : σ.1 376 7 = nI n) (h60 : n ≤ 60) (hc : ¬ (33 ≤ (hr (σ.1 380) n 0).toInt ∧ (hr (σ.1 380) n 0).toInt ≤ 126)) (h : Go κ mX11_readGlyph (gRm 9 0) Z 62 [(0, .ref (κ.2.1 + 376)), (1, .int (hr (σ.1 380) n 0))] [] (wr σ 0 true false 0 (σ.1 388) (σ.1 389)) 0) : Go κ mX11_readGlyph (gRm 9 0) Z 0 [(0, .ref (κ.2.1 + 376))] [] σ 0 := by
  refine go_aload_n (q := 1) (gDec iX11_readGlyph_ok 0 rfl) rfl rfl rfl ?_
  refine go_iconst (v := 0) (q := 2) (gDec iX11_readGlyph_ok 1 rfl) (by decide) rfl ?_
  refine go_puti (q := 5) fX11_244 gft11 (gDec iX11_readGlyph_ok 2 rfl) rfl (by decide) rfl rfl rfl rfl ?_
  refine go_aload_n (q := 6) (gDec iX11_readGlyph_ok 3 rfl) rfl rfl rfl ?_
  refine go_iconst (v := 0) (q := 7) (gDec iX11_readGlyph_ok 4 rfl) (by decide) rfl ?_
  refine go_puti (q := 10) fX11_267 gft11 (gDec iX11_readGlyph_ok 5 rfl) rfl (by decide) rfl rfl rfl rfl ?_
  refine go_aload_n (q := 11) (gDec iX11_readGlyph_ok 6 rfl) rfl rfl rfl ?_
  refine go_iconst (v := 0) (q := 12) (gDec iX11_readGlyph_ok 7 rfl) (by decide) rfl ?_
  refine go_puti (q := 15) fX11_258 gft11 (gDec iX11_readGlyph_ok 8 rfl) rfl (by decide) rfl rfl rfl rfl ?_
  refine go_aload_n (q := 16) (gDec iX11_readGlyph_ok 9 rfl) rfl rfl rfl ?_
  refine go_callV (n2 := 0) (q := 19) kX11_251 (ctX11_here0 (σ := (gPut (gPut (gPut σ 376 18 0) 376 24 0) 376 20 0)) (p := 0) (n := n) rfl h7 h60 (Nat.zero_le _)) (gDec iX11_readGlyph_ok 10 rfl) rfl rfl (by decide) rfl rfl rfl (Nat.le_of_ble_eq_true rfl) rfl (gFit_rm (by decide) (by decide)) rfl ?_
  refine go_istore_n (q := 20) (gDec iX11_readGlyph_ok 11 rfl) rfl (by decide) rfl ?_
  refine go_aload_n (q := 21) (gDec iX11_readGlyph_ok 12 rfl) rfl rfl rfl ?_
  refine go_iload_n (q := 22) (gDec iX11_readGlyph_ok 13 rfl) rfl rfl rfl ?_
  refine go_i2l (q := 23) (gDec iX11_readGlyph_ok 14 rfl) rfl ?_
  refine go_bipush (v := nI 33) (q := 25) (gDec iX11_readGlyph_ok 15 rfl) (by decide) rfl ?_
  refine go_bipush (v := nI 126) (q := 27) (gDec iX11_readGlyph_ok 16 rfl) (by decide) rfl ?_
  refine go_callS (n2 := 0) (q := 30) kX11_57 ctX11_in (gDec iX11_readGlyph_ok 17 rfl) rfl rfl (Nat.le_of_ble_eq_true rfl) rfl (gFit_rm (by decide) (by decide)) rfl ?_
  refine go_top (v' := 0) (gWi_f (by (try rw [i2l_toInt]); exact hc)) ?_
  refine go_if_ne (t := 37) (q := 33) (gDec iX11_readGlyph_ok 18 rfl) (by decide) rfl (fun c30 => False.elim (c30 rfl)) (fun c30 => ?_)
  refine go_iconst (v := nI 1) (q := 34) (gDec iX11_readGlyph_ok 19 rfl) (by decide) rfl ?_
  refine go_goto (t := 38) (gDec iX11_readGlyph_ok 20 rfl) (by decide) ?_
  refine go_puti (q := 41) fX11_247 gft11 (gDec iX11_readGlyph_ok 22 rfl) rfl (by decide) rfl rfl rfl rfl ?_
  refine go_w (show _ = (wr σ 0 true false 0 (σ.1 388) (σ.1 389)) from wr_0 (w := true)) ?_
  refine go_aload_n (q := 42) (gDec iX11_readGlyph_ok 23 rfl) rfl rfl rfl ?_
  refine go_dup (q := 43) (gDec iX11_readGlyph_ok 24 rfl) rfl rfl ?_
  refine go_geti (q := 46) fX11_244 (gDec iX11_readGlyph_ok 25 rfl) rfl (by decide) rfl ?_
  refine go_top (v' := nI 0) (rfl) ?_
  refine go_aload_n (q := 47) (gDec iX11_readGlyph_ok 26 rfl) rfl rfl rfl ?_
  refine go_geti (q := 50) fX11_247 (gDec iX11_readGlyph_ok 27 rfl) rfl (by decide) rfl ?_
  refine go_top (v' := 1) (rfl) ?_
  refine go_if_eq (t := 57) (q := 53) (gDec iX11_readGlyph_ok 28 rfl) (by decide) rfl (fun c50 => False.elim (absurd c50 (by decide))) (fun c50 => ?_)
  refine go_iconst (v := nI 0) (q := 54) (gDec iX11_readGlyph_ok 29 rfl) (by decide) rfl ?_
  refine go_goto (t := 58) (gDec iX11_readGlyph_ok 30 rfl) (by decide) ?_
  refine go_iaddN (c := 0 + 0) (q := 59) (gDec iX11_readGlyph_ok 32 rfl) rfl rfl ?_
  refine go_puti (q := 62) fX11_244 gft11 (gDec iX11_readGlyph_ok 33 rfl) rfl (by decide) rfl rfl rfl rfl ?_
  refine go_sub (L' := [(0, .ref (κ.2.1 + 376)), (1, .int (hr (σ.1 380) n 0))]) ⟨rfl, rfl, trivial⟩ ?_
  exact h
