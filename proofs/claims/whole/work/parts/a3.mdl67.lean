theorem vp_00 : vp_in 0 1 := by unfold vp_in; decide
def iL_addGlyph : List (Nat × Instr × Nat) := [(0, .aload_n 2, 1), (1, .iconst 0, 1), (2, .aload_n 0, 1), (3, .iload_n 1, 1), (4, .invokevirtual 7, 3), (7, .i2l, 1), (8, .lastore, 1), (9, .goto 9, 3), (12, .astore_n 3, 1), (13, .iconst 1, 1), (14, .ireturn, 1), (15, .astore_n 3, 1), (16, .iconst 2, 1), (17, .ireturn, 1), (18, .iconst 0, 1), (19, .ireturn, 1)]
theorem iL_addGlyph_ok : gDecs mL_addGlyph iL_addGlyph := by decide +kernel

theorem o_addGlyph {σ : gST} {a1 : Int32} : (∃ v, (fAddGlyph σ a1).1 = rI v) ∨ (fAddGlyph σ a1).1 = xIAE ∨ (fAddGlyph σ a1).1 = xISE := by
  unfold fAddGlyph
  repeat' split
  all_goals first | exact Or.inl ⟨_, rfl⟩ | exact Or.inr (Or.inl rfl) | exact Or.inr (Or.inr (rfl))
set_option maxHeartbeats 4000000 in
set_option maxRecDepth 100000 in
theorem ctL_addGlyph {κ : gK} {σ : gST} {a1 : Int32} (h : gJ σ) : gCt κ mL_addGlyph 10 [.ref (κ.2.1 + 0), .int a1, .ref (κ.2.1 + 390)] σ (rI (xC kAS (fAddGlyph σ a1).1)) (gOo (fAddGlyph σ a1)) 1 := by
  rcases o_addGlyph (σ := σ) (a1 := a1) with ⟨v, he⟩ | he | he
  · have hc : gCt κ mX10_addGlyph 9 [.ref (κ.2.1 + 0), .int a1] σ (rI v) (fAddGlyph σ a1).2 1 := he ▸ ctX10_addGlyph h.ci.dw h.cb.1
    refine ct_ofH (by decide +kernel) rfl (Nat.le_of_ble_eq_true rfl) rfl ?_
    refine go_aload_n (q := 1) (gDec iL_addGlyph_ok 0 rfl) rfl rfl rfl ?_
    refine go_iconst (v := 0) (q := 2) (gDec iL_addGlyph_ok 1 rfl) (by decide) rfl ?_
    refine go_aload_n (q := 3) (gDec iL_addGlyph_ok 2 rfl) rfl rfl rfl ?_
    refine go_iload_n (q := 4) (gDec iL_addGlyph_ok 3 rfl) rfl rfl rfl ?_
    refine go_callV (n2 := 1) (q := 7) kL_7 hc (gDec iL_addGlyph_ok 4 rfl) rfl rfl (by decide) rfl rfl rfl (Nat.le_of_ble_eq_true rfl) rfl (gFit_rm (by decide) (by decide)) rfl ?_
    refine go_i2l (q := 8) (gDec iL_addGlyph_ok 5 rfl) rfl ?_
    refine go_last (q := 9) (gDec iL_addGlyph_ok 6 rfl) vp_00 rfl ?_
    refine go_goto (t := 18) (gDec iL_addGlyph_ok 7 rfl) (by decide) ?_
    refine go_iconst (v := 0) (q := 19) (gDec iL_addGlyph_ok 14 rfl) (by decide) rfl ?_
    exact go_ireturn (gDec iL_addGlyph_ok 15 rfl) rfl rfl (by rw [he, xc_i]) (gOo_i he) (by decide)
  · have hc : gCt κ mX10_addGlyph 9 [.ref (κ.2.1 + 0), .int a1] σ xIAE (fAddGlyph σ a1).2 1 := he ▸ ctX10_addGlyph h.ci.dw h.cb.1
    refine ct_ofH (by decide +kernel) rfl (Nat.le_of_ble_eq_true rfl) rfl ?_
    refine go_aload_n (q := 1) (gDec iL_addGlyph_ok 0 rfl) rfl rfl rfl ?_
    refine go_iconst (v := 0) (q := 2) (gDec iL_addGlyph_ok 1 rfl) (by decide) rfl ?_
    refine go_aload_n (q := 3) (gDec iL_addGlyph_ok 2 rfl) rfl rfl rfl ?_
    refine go_iload_n (q := 4) (gDec iL_addGlyph_ok 3 rfl) rfl rfl rfl ?_
    refine go_callV_c (n2 := 1) (t := 12) kL_7 hc (gDec iL_addGlyph_ok 4 rfl) rfl rfl (by decide) rfl rfl rfl (Nat.le_of_ble_eq_true rfl) rfl (gFit_rm (by decide) (by decide)) (pre := []) (x := ⟨0, 9, 12, 13⟩) (suf := [⟨0, 9, 15, 15⟩]) rfl (fun _ h => absurd h List.not_mem_nil) rfl (by decide) wL_cA wL_kA rfl (fun q9 => ?_)
    refine go_astore_n (q := 13) (gDec iL_addGlyph_ok 8 rfl) rfl (by decide) rfl ?_
    refine go_iconst (v := 1) (q := 14) (gDec iL_addGlyph_ok 9 rfl) (by decide) rfl ?_
    exact go_ireturn (gDec iL_addGlyph_ok 10 rfl) rfl rfl (by rw [he, xc_AS_A]) (gOo_x he) (by decide)
  · have hc : gCt κ mX10_addGlyph 9 [.ref (κ.2.1 + 0), .int a1] σ xISE (fAddGlyph σ a1).2 1 := he ▸ ctX10_addGlyph h.ci.dw h.cb.1
    refine ct_ofH (by decide +kernel) rfl (Nat.le_of_ble_eq_true rfl) rfl ?_
    refine go_aload_n (q := 1) (gDec iL_addGlyph_ok 0 rfl) rfl rfl rfl ?_
    refine go_iconst (v := 0) (q := 2) (gDec iL_addGlyph_ok 1 rfl) (by decide) rfl ?_
    refine go_aload_n (q := 3) (gDec iL_addGlyph_ok 2 rfl) rfl rfl rfl ?_
    refine go_iload_n (q := 4) (gDec iL_addGlyph_ok 3 rfl) rfl rfl rfl ?_
    refine go_callV_c (n2 := 1) (t := 15) kL_7 hc (gDec iL_addGlyph_ok 4 rfl) rfl rfl (by decide) rfl rfl rfl (Nat.le_of_ble_eq_true rfl) rfl (gFit_rm (by decide) (by decide)) (pre := [⟨0, 9, 12, 13⟩]) (x := ⟨0, 9, 15, 15⟩) (suf := []) rfl (List.forall_mem_cons.mpr ⟨⟨by decide, _, wL_cA, List.mem_of_getElem? (i := 0) rfl⟩, (fun _ h => absurd h List.not_mem_nil)⟩) rfl (by decide) wL_cS wL_kS rfl (fun q9 => ?_)
    refine go_astore_n (q := 16) (gDec iL_addGlyph_ok 11 rfl) rfl (by decide) rfl ?_
    refine go_iconst (v := 2) (q := 17) (gDec iL_addGlyph_ok 12 rfl) (by decide) rfl ?_
    exact go_ireturn (gDec iL_addGlyph_ok 13 rfl) rfl rfl (by rw [he, xc_AS_S]) (gOo_x he) (by decide)

def iL_addContour : List (Nat × Instr × Nat) := [(0, .aload 6, 2), (2, .iconst 0, 1), (3, .aload_n 0, 1), (4, .iload_n 1, 1), (5, .iload_n 2, 1), (6, .iload_n 3, 1), (7, .iload 4, 2), (9, .iload 5, 2), (11, .invokevirtual 17, 3), (14, .i2l, 1), (15, .lastore, 1), (16, .goto 15, 3), (19, .astore 7, 2), (21, .iconst 1, 1), (22, .ireturn, 1), (23, .astore 7, 2), (25, .iconst 2, 1), (26, .ireturn, 1), (27, .astore 7, 2), (29, .iconst 3, 1), (30, .ireturn, 1), (31, .iconst 0, 1), (32, .ireturn, 1)]
theorem iL_addContour_ok : gDecs mL_addContour iL_addContour := by decide +kernel

theorem o_addContour {σ : gST} {a1 a2 a3 a4 a5 : Int32} : (∃ v, (fAddContour σ a1 a2 a3 a4 a5).1 = rI v) ∨ (fAddContour σ a1 a2 a3 a4 a5).1 = xIOB ∨ (fAddContour σ a1 a2 a3 a4 a5).1 = xIAE ∨ (fAddContour σ a1 a2 a3 a4 a5).1 = xISE := by
  unfold fAddContour
  repeat' split
  all_goals first | exact Or.inl ⟨_, rfl⟩ | exact Or.inr (Or.inl rfl) | exact Or.inr (Or.inr (Or.inl rfl)) | exact Or.inr (Or.inr (Or.inr (rfl)))
set_option maxHeartbeats 4000000 in
set_option maxRecDepth 100000 in
theorem ctL_addContour {κ : gK} {σ : gST} {a1 a2 a3 a4 a5 : Int32} (h : gJ σ) : gCt κ mL_addContour 10 [.ref (κ.2.1 + 0), .int a1, .int a2, .int a3, .int a4, .int a5, .ref (κ.2.1 + 390)] σ (rI (xC kOAS (fAddContour σ a1 a2 a3 a4 a5).1)) (gOo (fAddContour σ a1 a2 a3 a4 a5)) 1 := by
  rcases o_addContour (σ := σ) (a1 := a1) (a2 := a2) (a3 := a3) (a4 := a4) (a5 := a5) with ⟨v, he⟩ | he | he | he
  · have hc : gCt κ mX10_addContour 9 [.ref (κ.2.1 + 0), .int a1, .int a2, .int a3, .int a4, .int a5] σ (rI v) (fAddContour σ a1 a2 a3 a4 a5).2 1 := he ▸ ctX10_addContour h.ci.dw h.cb.1
    refine ct_ofH (by decide +kernel) rfl (Nat.le_of_ble_eq_true rfl) rfl ?_
    refine go_aload (q := 2) (gDec iL_addContour_ok 0 rfl) rfl rfl ?_
    refine go_iconst (v := 0) (q := 3) (gDec iL_addContour_ok 1 rfl) (by decide) rfl ?_
    refine go_aload_n (q := 4) (gDec iL_addContour_ok 2 rfl) rfl rfl rfl ?_
    refine go_iload_n (q := 5) (gDec iL_addContour_ok 3 rfl) rfl rfl rfl ?_
    refine go_iload_n (q := 6) (gDec iL_addContour_ok 4 rfl) rfl rfl rfl ?_
    refine go_iload_n (q := 7) (gDec iL_addContour_ok 5 rfl) rfl rfl rfl ?_
    refine go_iload (q := 9) (gDec iL_addContour_ok 6 rfl) rfl rfl ?_
    refine go_iload (q := 11) (gDec iL_addContour_ok 7 rfl) rfl rfl ?_
    refine go_callV (n2 := 1) (q := 14) kL_17 hc (gDec iL_addContour_ok 8 rfl) rfl rfl (by decide) rfl rfl rfl (Nat.le_of_ble_eq_true rfl) rfl (gFit_rm (by decide) (by decide)) rfl ?_
    refine go_i2l (q := 15) (gDec iL_addContour_ok 9 rfl) rfl ?_
    refine go_last (q := 16) (gDec iL_addContour_ok 10 rfl) vp_00 rfl ?_
    refine go_goto (t := 31) (gDec iL_addContour_ok 11 rfl) (by decide) ?_
    refine go_iconst (v := 0) (q := 32) (gDec iL_addContour_ok 21 rfl) (by decide) rfl ?_
    exact go_ireturn (gDec iL_addContour_ok 22 rfl) rfl rfl (by rw [he, xc_i]) (gOo_i he) (by decide)
  · have hc : gCt κ mX10_addContour 9 [.ref (κ.2.1 + 0), .int a1, .int a2, .int a3, .int a4, .int a5] σ xIOB (fAddContour σ a1 a2 a3 a4 a5).2 1 := he ▸ ctX10_addContour h.ci.dw h.cb.1
    refine ct_ofH (by decide +kernel) rfl (Nat.le_of_ble_eq_true rfl) rfl ?_
    refine go_aload (q := 2) (gDec iL_addContour_ok 0 rfl) rfl rfl ?_
    refine go_iconst (v := 0) (q := 3) (gDec iL_addContour_ok 1 rfl) (by decide) rfl ?_
    refine go_aload_n (q := 4) (gDec iL_addContour_ok 2 rfl) rfl rfl rfl ?_
    refine go_iload_n (q := 5) (gDec iL_addContour_ok 3 rfl) rfl rfl rfl ?_
    refine go_iload_n (q := 6) (gDec iL_addContour_ok 4 rfl) rfl rfl rfl ?_
    refine go_iload_n (q := 7) (gDec iL_addContour_ok 5 rfl) rfl rfl rfl ?_
    refine go_iload (q := 9) (gDec iL_addContour_ok 6 rfl) rfl rfl ?_
    refine go_iload (q := 11) (gDec iL_addContour_ok 7 rfl) rfl rfl ?_
    refine go_callV_c (n2 := 1) (t := 19) kL_17 hc (gDec iL_addContour_ok 8 rfl) rfl rfl (by decide) rfl rfl rfl (Nat.le_of_ble_eq_true rfl) rfl (gFit_rm (by decide) (by decide)) (pre := []) (x := ⟨0, 16, 19, 21⟩) (suf := [⟨0, 16, 23, 13⟩, ⟨0, 16, 27, 15⟩]) rfl (fun _ h => absurd h List.not_mem_nil) rfl (by decide) wL_cO wL_kO rfl (fun q9 => ?_)
    refine go_astore (q := 21) (gDec iL_addContour_ok 12 rfl) (by decide) rfl ?_
    refine go_iconst (v := 1) (q := 22) (gDec iL_addContour_ok 13 rfl) (by decide) rfl ?_
    exact go_ireturn (gDec iL_addContour_ok 14 rfl) rfl rfl (by rw [he, xc_OAS_O]) (gOo_x he) (by decide)
  · have hc : gCt κ mX10_addContour 9 [.ref (κ.2.1 + 0), .int a1, .int a2, .int a3, .int a4, .int a5] σ xIAE (fAddContour σ a1 a2 a3 a4 a5).2 1 := he ▸ ctX10_addContour h.ci.dw h.cb.1
    refine ct_ofH (by decide +kernel) rfl (Nat.le_of_ble_eq_true rfl) rfl ?_
    refine go_aload (q := 2) (gDec iL_addContour_ok 0 rfl) rfl rfl ?_
    refine go_iconst (v := 0) (q := 3) (gDec iL_addContour_ok 1 rfl) (by decide) rfl ?_
    refine go_aload_n (q := 4) (gDec iL_addContour_ok 2 rfl) rfl rfl rfl ?_
    refine go_iload_n (q := 5) (gDec iL_addContour_ok 3 rfl) rfl rfl rfl ?_
    refine go_iload_n (q := 6) (gDec iL_addContour_ok 4 rfl) rfl rfl rfl ?_
    refine go_iload_n (q := 7) (gDec iL_addContour_ok 5 rfl) rfl rfl rfl ?_
    refine go_iload (q := 9) (gDec iL_addContour_ok 6 rfl) rfl rfl ?_
    refine go_iload (q := 11) (gDec iL_addContour_ok 7 rfl) rfl rfl ?_
    refine go_callV_c (n2 := 1) (t := 23) kL_17 hc (gDec iL_addContour_ok 8 rfl) rfl rfl (by decide) rfl rfl rfl (Nat.le_of_ble_eq_true rfl) rfl (gFit_rm (by decide) (by decide)) (pre := [⟨0, 16, 19, 21⟩]) (x := ⟨0, 16, 23, 13⟩) (suf := [⟨0, 16, 27, 15⟩]) rfl (List.forall_mem_cons.mpr ⟨⟨by decide, _, wL_cO, List.mem_of_getElem? (i := 1) rfl⟩, (fun _ h => absurd h List.not_mem_nil)⟩) rfl (by decide) wL_cA wL_kA rfl (fun q9 => ?_)
    refine go_astore (q := 25) (gDec iL_addContour_ok 15 rfl) (by decide) rfl ?_
    refine go_iconst (v := 2) (q := 26) (gDec iL_addContour_ok 16 rfl) (by decide) rfl ?_
    exact go_ireturn (gDec iL_addContour_ok 17 rfl) rfl rfl (by rw [he, xc_OAS_A]) (gOo_x he) (by decide)
  · have hc : gCt κ mX10_addContour 9 [.ref (κ.2.1 + 0), .int a1, .int a2, .int a3, .int a4, .int a5] σ xISE (fAddContour σ a1 a2 a3 a4 a5).2 1 := he ▸ ctX10_addContour h.ci.dw h.cb.1
    refine ct_ofH (by decide +kernel) rfl (Nat.le_of_ble_eq_true rfl) rfl ?_
    refine go_aload (q := 2) (gDec iL_addContour_ok 0 rfl) rfl rfl ?_
    refine go_iconst (v := 0) (q := 3) (gDec iL_addContour_ok 1 rfl) (by decide) rfl ?_
    refine go_aload_n (q := 4) (gDec iL_addContour_ok 2 rfl) rfl rfl rfl ?_
    refine go_iload_n (q := 5) (gDec iL_addContour_ok 3 rfl) rfl rfl rfl ?_
    refine go_iload_n (q := 6) (gDec iL_addContour_ok 4 rfl) rfl rfl rfl ?_
    refine go_iload_n (q := 7) (gDec iL_addContour_ok 5 rfl) rfl rfl rfl ?_
    refine go_iload (q := 9) (gDec iL_addContour_ok 6 rfl) rfl rfl ?_
    refine go_iload (q := 11) (gDec iL_addContour_ok 7 rfl) rfl rfl ?_
    refine go_callV_c (n2 := 1) (t := 27) kL_17 hc (gDec iL_addContour_ok 8 rfl) rfl rfl (by decide) rfl rfl rfl (Nat.le_of_ble_eq_true rfl) rfl (gFit_rm (by decide) (by decide)) (pre := [⟨0, 16, 19, 21⟩, ⟨0, 16, 23, 13⟩]) (x := ⟨0, 16, 27, 15⟩) (suf := []) rfl (List.forall_mem_cons.mpr ⟨⟨by decide, _, wL_cO, List.mem_of_getElem? (i := 2) rfl⟩, (List.forall_mem_cons.mpr ⟨⟨by decide, _, wL_cA, List.mem_of_getElem? (i := 0) rfl⟩, (fun _ h => absurd h List.not_mem_nil)⟩)⟩) rfl (by decide) wL_cS wL_kS rfl (fun q9 => ?_)
    refine go_astore (q := 29) (gDec iL_addContour_ok 18 rfl) (by decide) rfl ?_
    refine go_iconst (v := 3) (q := 30) (gDec iL_addContour_ok 19 rfl) (by decide) rfl ?_
    exact go_ireturn (gDec iL_addContour_ok 20 rfl) rfl rfl (by rw [he, xc_OAS_S]) (gOo_x he) (by decide)

def iL_movePoint : List (Nat × Instr × Nat) := [(0, .aload 6, 2), (2, .iconst 0, 1), (3, .aload_n 0, 1), (4, .iload_n 1, 1), (5, .iload_n 2, 1), (6, .iload_n 3, 1), (7, .iload 4, 2), (9, .iload 5, 2), (11, .invokevirtual 23, 3), (14, .i2l, 1), (15, .lastore, 1), (16, .goto 11, 3), (19, .astore 7, 2), (21, .iconst 1, 1), (22, .ireturn, 1), (23, .astore 7, 2), (25, .iconst 2, 1), (26, .ireturn, 1), (27, .iconst 0, 1), (28, .ireturn, 1)]
theorem iL_movePoint_ok : gDecs mL_movePoint iL_movePoint := by decide +kernel

theorem o_movePoint {σ : gST} {a1 a2 a3 a4 a5 : Int32} : (∃ v, (fMovePoint σ a1 a2 a3 a4 a5).1 = rI v) ∨ (fMovePoint σ a1 a2 a3 a4 a5).1 = xIOB ∨ (fMovePoint σ a1 a2 a3 a4 a5).1 = xIAE := by
  unfold fMovePoint
  repeat' split
  all_goals first | exact Or.inl ⟨_, rfl⟩ | exact Or.inr (Or.inl rfl) | exact Or.inr (Or.inr (rfl))
set_option maxHeartbeats 4000000 in
set_option maxRecDepth 100000 in
theorem ctL_movePoint {κ : gK} {σ : gST} {a1 a2 a3 a4 a5 : Int32} (h : gJ σ) : gCt κ mL_movePoint 10 [.ref (κ.2.1 + 0), .int a1, .int a2, .int a3, .int a4, .int a5, .ref (κ.2.1 + 390)] σ (rI (xC kOA (fMovePoint σ a1 a2 a3 a4 a5).1)) (gOo (fMovePoint σ a1 a2 a3 a4 a5)) 1 := by
  rcases o_movePoint (σ := σ) (a1 := a1) (a2 := a2) (a3 := a3) (a4 := a4) (a5 := a5) with ⟨v, he⟩ | he | he
  · have hc : gCt κ mX10_movePoint 9 [.ref (κ.2.1 + 0), .int a1, .int a2, .int a3, .int a4, .int a5] σ (rI v) (fMovePoint σ a1 a2 a3 a4 a5).2 1 := he ▸ ctX10_movePoint h.ci.dw h.cb.1
    refine ct_ofH (by decide +kernel) rfl (Nat.le_of_ble_eq_true rfl) rfl ?_
    refine go_aload (q := 2) (gDec iL_movePoint_ok 0 rfl) rfl rfl ?_
    refine go_iconst (v := 0) (q := 3) (gDec iL_movePoint_ok 1 rfl) (by decide) rfl ?_
    refine go_aload_n (q := 4) (gDec iL_movePoint_ok 2 rfl) rfl rfl rfl ?_
    refine go_iload_n (q := 5) (gDec iL_movePoint_ok 3 rfl) rfl rfl rfl ?_
    refine go_iload_n (q := 6) (gDec iL_movePoint_ok 4 rfl) rfl rfl rfl ?_
    refine go_iload_n (q := 7) (gDec iL_movePoint_ok 5 rfl) rfl rfl rfl ?_
    refine go_iload (q := 9) (gDec iL_movePoint_ok 6 rfl) rfl rfl ?_
    refine go_iload (q := 11) (gDec iL_movePoint_ok 7 rfl) rfl rfl ?_
    refine go_callV (n2 := 1) (q := 14) kL_23 hc (gDec iL_movePoint_ok 8 rfl) rfl rfl (by decide) rfl rfl rfl (Nat.le_of_ble_eq_true rfl) rfl (gFit_rm (by decide) (by decide)) rfl ?_
    refine go_i2l (q := 15) (gDec iL_movePoint_ok 9 rfl) rfl ?_
    refine go_last (q := 16) (gDec iL_movePoint_ok 10 rfl) vp_00 rfl ?_
    refine go_goto (t := 27) (gDec iL_movePoint_ok 11 rfl) (by decide) ?_
    refine go_iconst (v := 0) (q := 28) (gDec iL_movePoint_ok 18 rfl) (by decide) rfl ?_
    exact go_ireturn (gDec iL_movePoint_ok 19 rfl) rfl rfl (by rw [he, xc_i]) (gOo_i he) (by decide)
  · have hc : gCt κ mX10_movePoint 9 [.ref (κ.2.1 + 0), .int a1, .int a2, .int a3, .int a4, .int a5] σ xIOB (fMovePoint σ a1 a2 a3 a4 a5).2 1 := he ▸ ctX10_movePoint h.ci.dw h.cb.1
    refine ct_ofH (by decide +kernel) rfl (Nat.le_of_ble_eq_true rfl) rfl ?_
    refine go_aload (q := 2) (gDec iL_movePoint_ok 0 rfl) rfl rfl ?_
    refine go_iconst (v := 0) (q := 3) (gDec iL_movePoint_ok 1 rfl) (by decide) rfl ?_
    refine go_aload_n (q := 4) (gDec iL_movePoint_ok 2 rfl) rfl rfl rfl ?_
    refine go_iload_n (q := 5) (gDec iL_movePoint_ok 3 rfl) rfl rfl rfl ?_
    refine go_iload_n (q := 6) (gDec iL_movePoint_ok 4 rfl) rfl rfl rfl ?_
    refine go_iload_n (q := 7) (gDec iL_movePoint_ok 5 rfl) rfl rfl rfl ?_
    refine go_iload (q := 9) (gDec iL_movePoint_ok 6 rfl) rfl rfl ?_
    refine go_iload (q := 11) (gDec iL_movePoint_ok 7 rfl) rfl rfl ?_
    refine go_callV_c (n2 := 1) (t := 19) kL_23 hc (gDec iL_movePoint_ok 8 rfl) rfl rfl (by decide) rfl rfl rfl (Nat.le_of_ble_eq_true rfl) rfl (gFit_rm (by decide) (by decide)) (pre := []) (x := ⟨0, 16, 19, 21⟩) (suf := [⟨0, 16, 23, 13⟩]) rfl (fun _ h => absurd h List.not_mem_nil) rfl (by decide) wL_cO wL_kO rfl (fun q9 => ?_)
    refine go_astore (q := 21) (gDec iL_movePoint_ok 12 rfl) (by decide) rfl ?_
    refine go_iconst (v := 1) (q := 22) (gDec iL_movePoint_ok 13 rfl) (by decide) rfl ?_
    exact go_ireturn (gDec iL_movePoint_ok 14 rfl) rfl rfl (by rw [he, xc_OA_O]) (gOo_x he) (by decide)
  · have hc : gCt κ mX10_movePoint 9 [.ref (κ.2.1 + 0), .int a1, .int a2, .int a3, .int a4, .int a5] σ xIAE (fMovePoint σ a1 a2 a3 a4 a5).2 1 := he ▸ ctX10_movePoint h.ci.dw h.cb.1
    refine ct_ofH (by decide +kernel) rfl (Nat.le_of_ble_eq_true rfl) rfl ?_
    refine go_aload (q := 2) (gDec iL_movePoint_ok 0 rfl) rfl rfl ?_
    refine go_iconst (v := 0) (q := 3) (gDec iL_movePoint_ok 1 rfl) (by decide) rfl ?_
    refine go_aload_n (q := 4) (gDec iL_movePoint_ok 2 rfl) rfl rfl rfl ?_
    refine go_iload_n (q := 5) (gDec iL_movePoint_ok 3 rfl) rfl rfl rfl ?_
    refine go_iload_n (q := 6) (gDec iL_movePoint_ok 4 rfl) rfl rfl rfl ?_
    refine go_iload_n (q := 7) (gDec iL_movePoint_ok 5 rfl) rfl rfl rfl ?_
    refine go_iload (q := 9) (gDec iL_movePoint_ok 6 rfl) rfl rfl ?_
    refine go_iload (q := 11) (gDec iL_movePoint_ok 7 rfl) rfl rfl ?_
    refine go_callV_c (n2 := 1) (t := 23) kL_23 hc (gDec iL_movePoint_ok 8 rfl) rfl rfl (by decide) rfl rfl rfl (Nat.le_of_ble_eq_true rfl) rfl (gFit_rm (by decide) (by decide)) (pre := [⟨0, 16, 19, 21⟩]) (x := ⟨0, 16, 23, 13⟩) (suf := []) rfl (List.forall_mem_cons.mpr ⟨⟨by decide, _, wL_cO, List.mem_of_getElem? (i := 1) rfl⟩, (fun _ h => absurd h List.not_mem_nil)⟩) rfl (by decide) wL_cA wL_kA rfl (fun q9 => ?_)
    refine go_astore (q := 25) (gDec iL_movePoint_ok 15 rfl) (by decide) rfl ?_
    refine go_iconst (v := 2) (q := 26) (gDec iL_movePoint_ok 16 rfl) (by decide) rfl ?_
    exact go_ireturn (gDec iL_movePoint_ok 17 rfl) rfl rfl (by rw [he, xc_OA_A]) (gOo_x he) (by decide)

def iL_shift : List (Nat × Instr × Nat) := [(0, .aload 4, 2), (2, .iconst 0, 1), (3, .aload_n 0, 1), (4, .iload_n 1, 1), (5, .iload_n 2, 1), (6, .iload_n 3, 1), (7, .invokevirtual 26, 3), (10, .i2l, 1), (11, .lastore, 1), (12, .goto 11, 3), (15, .astore 5, 2), (17, .iconst 1, 1), (18, .ireturn, 1), (19, .astore 5, 2), (21, .iconst 2, 1), (22, .ireturn, 1), (23, .iconst 0, 1), (24, .ireturn, 1)]
theorem iL_shift_ok : gDecs mL_shift iL_shift := by decide +kernel

theorem o_shift {σ : gST} {a1 a2 a3 : Int32} : (∃ v, (fShift σ a1 a2 a3).1 = rI v) ∨ (fShift σ a1 a2 a3).1 = xIOB ∨ (fShift σ a1 a2 a3).1 = xIAE := by
  unfold fShift
  repeat' split
  all_goals first | exact Or.inl ⟨_, rfl⟩ | exact Or.inr (Or.inl rfl) | exact Or.inr (Or.inr (rfl))
set_option maxHeartbeats 4000000 in
set_option maxRecDepth 100000 in
theorem ctL_shift {κ : gK} {σ : gST} {a1 a2 a3 : Int32} (h : gJ σ) : gCt κ mL_shift 10 [.ref (κ.2.1 + 0), .int a1, .int a2, .int a3, .ref (κ.2.1 + 390)] σ (rI (xC kOA (fShift σ a1 a2 a3).1)) (gOo (fShift σ a1 a2 a3)) 1 := by
  rcases o_shift (σ := σ) (a1 := a1) (a2 := a2) (a3 := a3) with ⟨v, he⟩ | he | he
  · have hc : gCt κ mX10_shift 9 [.ref (κ.2.1 + 0), .int a1, .int a2, .int a3] σ (rI v) (fShift σ a1 a2 a3).2 1 := he ▸ ctX10_shift h.ci.dw h.cb.1
    refine ct_ofH (by decide +kernel) rfl (Nat.le_of_ble_eq_true rfl) rfl ?_
    refine go_aload (q := 2) (gDec iL_shift_ok 0 rfl) rfl rfl ?_
    refine go_iconst (v := 0) (q := 3) (gDec iL_shift_ok 1 rfl) (by decide) rfl ?_
    refine go_aload_n (q := 4) (gDec iL_shift_ok 2 rfl) rfl rfl rfl ?_
    refine go_iload_n (q := 5) (gDec iL_shift_ok 3 rfl) rfl rfl rfl ?_
    refine go_iload_n (q := 6) (gDec iL_shift_ok 4 rfl) rfl rfl rfl ?_
    refine go_iload_n (q := 7) (gDec iL_shift_ok 5 rfl) rfl rfl rfl ?_
    refine go_callV (n2 := 1) (q := 10) kL_26 hc (gDec iL_shift_ok 6 rfl) rfl rfl (by decide) rfl rfl rfl (Nat.le_of_ble_eq_true rfl) rfl (gFit_rm (by decide) (by decide)) rfl ?_
    refine go_i2l (q := 11) (gDec iL_shift_ok 7 rfl) rfl ?_
    refine go_last (q := 12) (gDec iL_shift_ok 8 rfl) vp_00 rfl ?_
    refine go_goto (t := 23) (gDec iL_shift_ok 9 rfl) (by decide) ?_
    refine go_iconst (v := 0) (q := 24) (gDec iL_shift_ok 16 rfl) (by decide) rfl ?_
    exact go_ireturn (gDec iL_shift_ok 17 rfl) rfl rfl (by rw [he, xc_i]) (gOo_i he) (by decide)
  · have hc : gCt κ mX10_shift 9 [.ref (κ.2.1 + 0), .int a1, .int a2, .int a3] σ xIOB (fShift σ a1 a2 a3).2 1 := he ▸ ctX10_shift h.ci.dw h.cb.1
    refine ct_ofH (by decide +kernel) rfl (Nat.le_of_ble_eq_true rfl) rfl ?_
    refine go_aload (q := 2) (gDec iL_shift_ok 0 rfl) rfl rfl ?_
    refine go_iconst (v := 0) (q := 3) (gDec iL_shift_ok 1 rfl) (by decide) rfl ?_
    refine go_aload_n (q := 4) (gDec iL_shift_ok 2 rfl) rfl rfl rfl ?_
    refine go_iload_n (q := 5) (gDec iL_shift_ok 3 rfl) rfl rfl rfl ?_
    refine go_iload_n (q := 6) (gDec iL_shift_ok 4 rfl) rfl rfl rfl ?_
    refine go_iload_n (q := 7) (gDec iL_shift_ok 5 rfl) rfl rfl rfl ?_
    refine go_callV_c (n2 := 1) (t := 15) kL_26 hc (gDec iL_shift_ok 6 rfl) rfl rfl (by decide) rfl rfl rfl (Nat.le_of_ble_eq_true rfl) rfl (gFit_rm (by decide) (by decide)) (pre := []) (x := ⟨0, 12, 15, 21⟩) (suf := [⟨0, 12, 19, 13⟩]) rfl (fun _ h => absurd h List.not_mem_nil) rfl (by decide) wL_cO wL_kO rfl (fun q9 => ?_)
    refine go_astore (q := 17) (gDec iL_shift_ok 10 rfl) (by decide) rfl ?_
    refine go_iconst (v := 1) (q := 18) (gDec iL_shift_ok 11 rfl) (by decide) rfl ?_
    exact go_ireturn (gDec iL_shift_ok 12 rfl) rfl rfl (by rw [he, xc_OA_O]) (gOo_x he) (by decide)
  · have hc : gCt κ mX10_shift 9 [.ref (κ.2.1 + 0), .int a1, .int a2, .int a3] σ xIAE (fShift σ a1 a2 a3).2 1 := he ▸ ctX10_shift h.ci.dw h.cb.1
    refine ct_ofH (by decide +kernel) rfl (Nat.le_of_ble_eq_true rfl) rfl ?_
    refine go_aload (q := 2) (gDec iL_shift_ok 0 rfl) rfl rfl ?_
    refine go_iconst (v := 0) (q := 3) (gDec iL_shift_ok 1 rfl) (by decide) rfl ?_
    refine go_aload_n (q := 4) (gDec iL_shift_ok 2 rfl) rfl rfl rfl ?_
    refine go_iload_n (q := 5) (gDec iL_shift_ok 3 rfl) rfl rfl rfl ?_
    refine go_iload_n (q := 6) (gDec iL_shift_ok 4 rfl) rfl rfl rfl ?_
    refine go_iload_n (q := 7) (gDec iL_shift_ok 5 rfl) rfl rfl rfl ?_
    refine go_callV_c (n2 := 1) (t := 19) kL_26 hc (gDec iL_shift_ok 6 rfl) rfl rfl (by decide) rfl rfl rfl (Nat.le_of_ble_eq_true rfl) rfl (gFit_rm (by decide) (by decide)) (pre := [⟨0, 12, 15, 21⟩]) (x := ⟨0, 12, 19, 13⟩) (suf := []) rfl (List.forall_mem_cons.mpr ⟨⟨by decide, _, wL_cO, List.mem_of_getElem? (i := 1) rfl⟩, (fun _ h => absurd h List.not_mem_nil)⟩) rfl (by decide) wL_cA wL_kA rfl (fun q9 => ?_)
    refine go_astore (q := 21) (gDec iL_shift_ok 13 rfl) (by decide) rfl ?_
    refine go_iconst (v := 2) (q := 22) (gDec iL_shift_ok 14 rfl) (by decide) rfl ?_
    exact go_ireturn (gDec iL_shift_ok 15 rfl) rfl rfl (by rw [he, xc_OA_A]) (gOo_x he) (by decide)

def iL_glyph : List (Nat × Instr × Nat) := [(0, .aload_n 3, 1), (1, .iconst 0, 1), (2, .aload_n 0, 1), (3, .iload_n 1, 1), (4, .iload_n 2, 1), (5, .invokevirtual 30, 3), (8, .i2l, 1), (9, .lastore, 1), (10, .goto 11, 3), (13, .astore 4, 2), (15, .iconst 1, 1), (16, .ireturn, 1), (17, .astore 4, 2), (19, .iconst 2, 1), (20, .ireturn, 1), (21, .iconst 0, 1), (22, .ireturn, 1)]
theorem iL_glyph_ok : gDecs mL_glyph iL_glyph := by decide +kernel

theorem o_glyph {σ : gST} {a1 a2 : Int32} : (∃ v, (fGlyph σ a1 a2).1 = rI v) ∨ (fGlyph σ a1 a2).1 = xIOB ∨ (fGlyph σ a1 a2).1 = xIAE := by
  unfold fGlyph
  repeat' split
  all_goals first | exact Or.inl ⟨_, rfl⟩ | exact Or.inr (Or.inl rfl) | exact Or.inr (Or.inr (rfl))
set_option maxHeartbeats 4000000 in
set_option maxRecDepth 100000 in
theorem ctL_glyph {κ : gK} {σ : gST} {a1 a2 : Int32} (h : gJ σ) : gCt κ mL_glyph 10 [.ref (κ.2.1 + 0), .int a1, .int a2, .ref (κ.2.1 + 390)] σ (rI (xC kOA (fGlyph σ a1 a2).1)) (gOo (fGlyph σ a1 a2)) 1 := by
  rcases o_glyph (σ := σ) (a1 := a1) (a2 := a2) with ⟨v, he⟩ | he | he
  · have hc : gCt κ mX10_glyph 9 [.ref (κ.2.1 + 0), .int a1, .int a2] σ (rI v) (fGlyph σ a1 a2).2 1 := he ▸ ctX10_glyph h.ci.dw
    refine ct_ofH (by decide +kernel) rfl (Nat.le_of_ble_eq_true rfl) rfl ?_
    refine go_aload_n (q := 1) (gDec iL_glyph_ok 0 rfl) rfl rfl rfl ?_
    refine go_iconst (v := 0) (q := 2) (gDec iL_glyph_ok 1 rfl) (by decide) rfl ?_
    refine go_aload_n (q := 3) (gDec iL_glyph_ok 2 rfl) rfl rfl rfl ?_
    refine go_iload_n (q := 4) (gDec iL_glyph_ok 3 rfl) rfl rfl rfl ?_
    refine go_iload_n (q := 5) (gDec iL_glyph_ok 4 rfl) rfl rfl rfl ?_
    refine go_callV (n2 := 1) (q := 8) kL_30 hc (gDec iL_glyph_ok 5 rfl) rfl rfl (by decide) rfl rfl rfl (Nat.le_of_ble_eq_true rfl) rfl (gFit_rm (by decide) (by decide)) rfl ?_
    refine go_i2l (q := 9) (gDec iL_glyph_ok 6 rfl) rfl ?_
    refine go_last (q := 10) (gDec iL_glyph_ok 7 rfl) vp_00 rfl ?_
    refine go_goto (t := 21) (gDec iL_glyph_ok 8 rfl) (by decide) ?_
    refine go_iconst (v := 0) (q := 22) (gDec iL_glyph_ok 15 rfl) (by decide) rfl ?_
    exact go_ireturn (gDec iL_glyph_ok 16 rfl) rfl rfl (by rw [he, xc_i]) (gOo_i he) (by decide)
  · have hc : gCt κ mX10_glyph 9 [.ref (κ.2.1 + 0), .int a1, .int a2] σ xIOB (fGlyph σ a1 a2).2 1 := he ▸ ctX10_glyph h.ci.dw
    refine ct_ofH (by decide +kernel) rfl (Nat.le_of_ble_eq_true rfl) rfl ?_
    refine go_aload_n (q := 1) (gDec iL_glyph_ok 0 rfl) rfl rfl rfl ?_
    refine go_iconst (v := 0) (q := 2) (gDec iL_glyph_ok 1 rfl) (by decide) rfl ?_
    refine go_aload_n (q := 3) (gDec iL_glyph_ok 2 rfl) rfl rfl rfl ?_
    refine go_iload_n (q := 4) (gDec iL_glyph_ok 3 rfl) rfl rfl rfl ?_
    refine go_iload_n (q := 5) (gDec iL_glyph_ok 4 rfl) rfl rfl rfl ?_
    refine go_callV_c (n2 := 1) (t := 13) kL_30 hc (gDec iL_glyph_ok 5 rfl) rfl rfl (by decide) rfl rfl rfl (Nat.le_of_ble_eq_true rfl) rfl (gFit_rm (by decide) (by decide)) (pre := []) (x := ⟨0, 10, 13, 21⟩) (suf := [⟨0, 10, 17, 13⟩]) rfl (fun _ h => absurd h List.not_mem_nil) rfl (by decide) wL_cO wL_kO rfl (fun q9 => ?_)
    refine go_astore (q := 15) (gDec iL_glyph_ok 9 rfl) (by decide) rfl ?_
    refine go_iconst (v := 1) (q := 16) (gDec iL_glyph_ok 10 rfl) (by decide) rfl ?_
    exact go_ireturn (gDec iL_glyph_ok 11 rfl) rfl rfl (by rw [he, xc_OA_O]) (gOo_x he) (by decide)
  · have hc : gCt κ mX10_glyph 9 [.ref (κ.2.1 + 0), .int a1, .int a2] σ xIAE (fGlyph σ a1 a2).2 1 := he ▸ ctX10_glyph h.ci.dw
    refine ct_ofH (by decide +kernel) rfl (Nat.le_of_ble_eq_true rfl) rfl ?_
    refine go_aload_n (q := 1) (gDec iL_glyph_ok 0 rfl) rfl rfl rfl ?_
    refine go_iconst (v := 0) (q := 2) (gDec iL_glyph_ok 1 rfl) (by decide) rfl ?_
    refine go_aload_n (q := 3) (gDec iL_glyph_ok 2 rfl) rfl rfl rfl ?_
    refine go_iload_n (q := 4) (gDec iL_glyph_ok 3 rfl) rfl rfl rfl ?_
    refine go_iload_n (q := 5) (gDec iL_glyph_ok 4 rfl) rfl rfl rfl ?_
    refine go_callV_c (n2 := 1) (t := 17) kL_30 hc (gDec iL_glyph_ok 5 rfl) rfl rfl (by decide) rfl rfl rfl (Nat.le_of_ble_eq_true rfl) rfl (gFit_rm (by decide) (by decide)) (pre := [⟨0, 10, 13, 21⟩]) (x := ⟨0, 10, 17, 13⟩) (suf := []) rfl (List.forall_mem_cons.mpr ⟨⟨by decide, _, wL_cO, List.mem_of_getElem? (i := 1) rfl⟩, (fun _ h => absurd h List.not_mem_nil)⟩) rfl (by decide) wL_cA wL_kA rfl (fun q9 => ?_)
    refine go_astore (q := 19) (gDec iL_glyph_ok 12 rfl) (by decide) rfl ?_
    refine go_iconst (v := 2) (q := 20) (gDec iL_glyph_ok 13 rfl) (by decide) rfl ?_
    exact go_ireturn (gDec iL_glyph_ok 14 rfl) rfl rfl (by rw [he, xc_OA_A]) (gOo_x he) (by decide)

def iL_find : List (Nat × Instr × Nat) := [(0, .aload_n 2, 1), (1, .iconst 0, 1), (2, .aload_n 0, 1), (3, .iload_n 1, 1), (4, .invokevirtual 34, 3), (7, .i2l, 1), (8, .lastore, 1), (9, .goto 6, 3), (12, .astore_n 3, 1), (13, .iconst 1, 1), (14, .ireturn, 1), (15, .iconst 0, 1), (16, .ireturn, 1)]
theorem iL_find_ok : gDecs mL_find iL_find := by decide +kernel

theorem o_find {σ : gST} {a1 : Int32} : (∃ v, (fFind σ a1).1 = rI v) ∨ (fFind σ a1).1 = xNSE := by
  unfold fFind
  repeat' split
  all_goals first | exact Or.inl ⟨_, rfl⟩ | exact Or.inr (rfl)
set_option maxHeartbeats 4000000 in
set_option maxRecDepth 100000 in
theorem ctL_find {κ : gK} {σ : gST} {a1 : Int32} (h : gJ σ) : gCt κ mL_find 10 [.ref (κ.2.1 + 0), .int a1, .ref (κ.2.1 + 390)] σ (rI (xC kN (fFind σ a1).1)) (gOo (fFind σ a1)) 1 := by
  rcases o_find (σ := σ) (a1 := a1) with ⟨v, he⟩ | he
  · have hc : gCt κ mX10_find 9 [.ref (κ.2.1 + 0), .int a1] σ (rI v) (fFind σ a1).2 1 := he ▸ ctX10_find h.ci.dw
    refine ct_ofH (by decide +kernel) rfl (Nat.le_of_ble_eq_true rfl) rfl ?_
    refine go_aload_n (q := 1) (gDec iL_find_ok 0 rfl) rfl rfl rfl ?_
    refine go_iconst (v := 0) (q := 2) (gDec iL_find_ok 1 rfl) (by decide) rfl ?_
    refine go_aload_n (q := 3) (gDec iL_find_ok 2 rfl) rfl rfl rfl ?_
    refine go_iload_n (q := 4) (gDec iL_find_ok 3 rfl) rfl rfl rfl ?_
    refine go_callV (n2 := 1) (q := 7) kL_34 hc (gDec iL_find_ok 4 rfl) rfl rfl (by decide) rfl rfl rfl (Nat.le_of_ble_eq_true rfl) rfl (gFit_rm (by decide) (by decide)) rfl ?_
    refine go_i2l (q := 8) (gDec iL_find_ok 5 rfl) rfl ?_
    refine go_last (q := 9) (gDec iL_find_ok 6 rfl) vp_00 rfl ?_
    refine go_goto (t := 15) (gDec iL_find_ok 7 rfl) (by decide) ?_
    refine go_iconst (v := 0) (q := 16) (gDec iL_find_ok 11 rfl) (by decide) rfl ?_
    exact go_ireturn (gDec iL_find_ok 12 rfl) rfl rfl (by rw [he, xc_i]) (gOo_i he) (by decide)
  · have hc : gCt κ mX10_find 9 [.ref (κ.2.1 + 0), .int a1] σ xNSE (fFind σ a1).2 1 := he ▸ ctX10_find h.ci.dw
    refine ct_ofH (by decide +kernel) rfl (Nat.le_of_ble_eq_true rfl) rfl ?_
    refine go_aload_n (q := 1) (gDec iL_find_ok 0 rfl) rfl rfl rfl ?_
    refine go_iconst (v := 0) (q := 2) (gDec iL_find_ok 1 rfl) (by decide) rfl ?_
    refine go_aload_n (q := 3) (gDec iL_find_ok 2 rfl) rfl rfl rfl ?_
    refine go_iload_n (q := 4) (gDec iL_find_ok 3 rfl) rfl rfl rfl ?_
    refine go_callV_c (n2 := 1) (t := 12) kL_34 hc (gDec iL_find_ok 4 rfl) rfl rfl (by decide) rfl rfl rfl (Nat.le_of_ble_eq_true rfl) rfl (gFit_rm (by decide) (by decide)) (pre := []) (x := ⟨0, 9, 12, 37⟩) (suf := []) rfl (fun _ h => absurd h List.not_mem_nil) rfl (by decide) wL_cN wL_kN rfl (fun q9 => ?_)
    refine go_astore_n (q := 13) (gDec iL_find_ok 8 rfl) rfl (by decide) rfl ?_
    refine go_iconst (v := 1) (q := 14) (gDec iL_find_ok 9 rfl) (by decide) rfl ?_
    exact go_ireturn (gDec iL_find_ok 10 rfl) rfl rfl (by rw [he, xc_N_N]) (gOo_x he) (by decide)

def iL_points : List (Nat × Instr × Nat) := [(0, .aload_n 3, 1), (1, .iconst 0, 1), (2, .aload_n 0, 1), (3, .iload_n 1, 1), (4, .iload_n 2, 1), (5, .invokevirtual 39, 3), (8, .i2l, 1), (9, .lastore, 1), (10, .goto 7, 3), (13, .astore 4, 2), (15, .iconst 1, 1), (16, .ireturn, 1), (17, .iconst 0, 1), (18, .ireturn, 1)]
theorem iL_points_ok : gDecs mL_points iL_points := by decide +kernel

theorem o_points {σ : gST} {a1 a2 : Int32} : (∃ v, (fPoints σ a1 a2).1 = rI v) ∨ (fPoints σ a1 a2).1 = xIOB := by
  unfold fPoints
  repeat' split
  all_goals first | exact Or.inl ⟨_, rfl⟩ | exact Or.inr (rfl)
set_option maxHeartbeats 4000000 in
set_option maxRecDepth 100000 in
theorem ctL_points {κ : gK} {σ : gST} {a1 a2 : Int32} (h : gJ σ) : gCt κ mL_points 10 [.ref (κ.2.1 + 0), .int a1, .int a2, .ref (κ.2.1 + 390)] σ (rI (xC kO (fPoints σ a1 a2).1)) (gOo (fPoints σ a1 a2)) 1 := by
  rcases o_points (σ := σ) (a1 := a1) (a2 := a2) with ⟨v, he⟩ | he
  · have hc : gCt κ mX10_points 9 [.ref (κ.2.1 + 0), .int a1, .int a2] σ (rI v) (fPoints σ a1 a2).2 1 := he ▸ ctX10_points h.ci.dw
    refine ct_ofH (by decide +kernel) rfl (Nat.le_of_ble_eq_true rfl) rfl ?_
    refine go_aload_n (q := 1) (gDec iL_points_ok 0 rfl) rfl rfl rfl ?_
    refine go_iconst (v := 0) (q := 2) (gDec iL_points_ok 1 rfl) (by decide) rfl ?_
    refine go_aload_n (q := 3) (gDec iL_points_ok 2 rfl) rfl rfl rfl ?_
    refine go_iload_n (q := 4) (gDec iL_points_ok 3 rfl) rfl rfl rfl ?_
    refine go_iload_n (q := 5) (gDec iL_points_ok 4 rfl) rfl rfl rfl ?_
    refine go_callV (n2 := 1) (q := 8) kL_39 hc (gDec iL_points_ok 5 rfl) rfl rfl (by decide) rfl rfl rfl (Nat.le_of_ble_eq_true rfl) rfl (gFit_rm (by decide) (by decide)) rfl ?_
    refine go_i2l (q := 9) (gDec iL_points_ok 6 rfl) rfl ?_
    refine go_last (q := 10) (gDec iL_points_ok 7 rfl) vp_00 rfl ?_
    refine go_goto (t := 17) (gDec iL_points_ok 8 rfl) (by decide) ?_
    refine go_iconst (v := 0) (q := 18) (gDec iL_points_ok 12 rfl) (by decide) rfl ?_
    exact go_ireturn (gDec iL_points_ok 13 rfl) rfl rfl (by rw [he, xc_i]) (gOo_i he) (by decide)
  · have hc : gCt κ mX10_points 9 [.ref (κ.2.1 + 0), .int a1, .int a2] σ xIOB (fPoints σ a1 a2).2 1 := he ▸ ctX10_points h.ci.dw
    refine ct_ofH (by decide +kernel) rfl (Nat.le_of_ble_eq_true rfl) rfl ?_
    refine go_aload_n (q := 1) (gDec iL_points_ok 0 rfl) rfl rfl rfl ?_
    refine go_iconst (v := 0) (q := 2) (gDec iL_points_ok 1 rfl) (by decide) rfl ?_
    refine go_aload_n (q := 3) (gDec iL_points_ok 2 rfl) rfl rfl rfl ?_
    refine go_iload_n (q := 4) (gDec iL_points_ok 3 rfl) rfl rfl rfl ?_
    refine go_iload_n (q := 5) (gDec iL_points_ok 4 rfl) rfl rfl rfl ?_
    refine go_callV_c (n2 := 1) (t := 13) kL_39 hc (gDec iL_points_ok 5 rfl) rfl rfl (by decide) rfl rfl rfl (Nat.le_of_ble_eq_true rfl) rfl (gFit_rm (by decide) (by decide)) (pre := []) (x := ⟨0, 10, 13, 21⟩) (suf := []) rfl (fun _ h => absurd h List.not_mem_nil) rfl (by decide) wL_cO wL_kO rfl (fun q9 => ?_)
    refine go_astore (q := 15) (gDec iL_points_ok 9 rfl) (by decide) rfl ?_
    refine go_iconst (v := 1) (q := 16) (gDec iL_points_ok 10 rfl) (by decide) rfl ?_
    exact go_ireturn (gDec iL_points_ok 11 rfl) rfl rfl (by rw [he, xc_O_O]) (gOo_x he) (by decide)

def iL_point : List (Nat × Instr × Nat) := [(0, .aload 5, 2), (2, .iconst 0, 1), (3, .aload_n 0, 1), (4, .iload_n 1, 1), (5, .iload_n 2, 1), (6, .iload_n 3, 1), (7, .iload 4, 2), (9, .invokevirtual 42, 3), (12, .i2l, 1), (13, .lastore, 1), (14, .goto 7, 3), (17, .astore 6, 2), (19, .iconst 1, 1), (20, .ireturn, 1), (21, .iconst 0, 1), (22, .ireturn, 1)]
theorem iL_point_ok : gDecs mL_point iL_point := by decide +kernel

theorem o_point {σ : gST} {a1 a2 a3 a4 : Int32} : (∃ v, (fPoint σ a1 a2 a3 a4).1 = rI v) ∨ (fPoint σ a1 a2 a3 a4).1 = xIOB := by
  unfold fPoint
  repeat' split
  all_goals first | exact Or.inl ⟨_, rfl⟩ | exact Or.inr (rfl)
set_option maxHeartbeats 4000000 in
set_option maxRecDepth 100000 in
theorem ctL_point {κ : gK} {σ : gST} {a1 a2 a3 a4 : Int32} (h : gJ σ) : gCt κ mL_point 10 [.ref (κ.2.1 + 0), .int a1, .int a2, .int a3, .int a4, .ref (κ.2.1 + 390)] σ (rI (xC kO (fPoint σ a1 a2 a3 a4).1)) (gOo (fPoint σ a1 a2 a3 a4)) 1 := by
  rcases o_point (σ := σ) (a1 := a1) (a2 := a2) (a3 := a3) (a4 := a4) with ⟨v, he⟩ | he
  · have hc : gCt κ mX10_point 9 [.ref (κ.2.1 + 0), .int a1, .int a2, .int a3, .int a4] σ (rI v) (fPoint σ a1 a2 a3 a4).2 1 := he ▸ ctX10_point h.ci.dw
    refine ct_ofH (by decide +kernel) rfl (Nat.le_of_ble_eq_true rfl) rfl ?_
    refine go_aload (q := 2) (gDec iL_point_ok 0 rfl) rfl rfl ?_
    refine go_iconst (v := 0) (q := 3) (gDec iL_point_ok 1 rfl) (by decide) rfl ?_
    refine go_aload_n (q := 4) (gDec iL_point_ok 2 rfl) rfl rfl rfl ?_
    refine go_iload_n (q := 5) (gDec iL_point_ok 3 rfl) rfl rfl rfl ?_
    refine go_iload_n (q := 6) (gDec iL_point_ok 4 rfl) rfl rfl rfl ?_
    refine go_iload_n (q := 7) (gDec iL_point_ok 5 rfl) rfl rfl rfl ?_
    refine go_iload (q := 9) (gDec iL_point_ok 6 rfl) rfl rfl ?_
    refine go_callV (n2 := 1) (q := 12) kL_42 hc (gDec iL_point_ok 7 rfl) rfl rfl (by decide) rfl rfl rfl (Nat.le_of_ble_eq_true rfl) rfl (gFit_rm (by decide) (by decide)) rfl ?_
    refine go_i2l (q := 13) (gDec iL_point_ok 8 rfl) rfl ?_
    refine go_last (q := 14) (gDec iL_point_ok 9 rfl) vp_00 rfl ?_
    refine go_goto (t := 21) (gDec iL_point_ok 10 rfl) (by decide) ?_
    refine go_iconst (v := 0) (q := 22) (gDec iL_point_ok 14 rfl) (by decide) rfl ?_
    exact go_ireturn (gDec iL_point_ok 15 rfl) rfl rfl (by rw [he, xc_i]) (gOo_i he) (by decide)
  · have hc : gCt κ mX10_point 9 [.ref (κ.2.1 + 0), .int a1, .int a2, .int a3, .int a4] σ xIOB (fPoint σ a1 a2 a3 a4).2 1 := he ▸ ctX10_point h.ci.dw
    refine ct_ofH (by decide +kernel) rfl (Nat.le_of_ble_eq_true rfl) rfl ?_
    refine go_aload (q := 2) (gDec iL_point_ok 0 rfl) rfl rfl ?_
    refine go_iconst (v := 0) (q := 3) (gDec iL_point_ok 1 rfl) (by decide) rfl ?_
    refine go_aload_n (q := 4) (gDec iL_point_ok 2 rfl) rfl rfl rfl ?_
    refine go_iload_n (q := 5) (gDec iL_point_ok 3 rfl) rfl rfl rfl ?_
    refine go_iload_n (q := 6) (gDec iL_point_ok 4 rfl) rfl rfl rfl ?_
    refine go_iload_n (q := 7) (gDec iL_point_ok 5 rfl) rfl rfl rfl ?_
    refine go_iload (q := 9) (gDec iL_point_ok 6 rfl) rfl rfl ?_
    refine go_callV_c (n2 := 1) (t := 17) kL_42 hc (gDec iL_point_ok 7 rfl) rfl rfl (by decide) rfl rfl rfl (Nat.le_of_ble_eq_true rfl) rfl (gFit_rm (by decide) (by decide)) (pre := []) (x := ⟨0, 14, 17, 21⟩) (suf := []) rfl (fun _ h => absurd h List.not_mem_nil) rfl (by decide) wL_cO wL_kO rfl (fun q9 => ?_)
    refine go_astore (q := 19) (gDec iL_point_ok 11 rfl) (by decide) rfl ?_
    refine go_iconst (v := 1) (q := 20) (gDec iL_point_ok 12 rfl) (by decide) rfl ?_
    exact go_ireturn (gDec iL_point_ok 13 rfl) rfl rfl (by rw [he, xc_O_O]) (gOo_x he) (by decide)

def iL_area : List (Nat × Instr × Nat) := [(0, .aload_n 3, 1), (1, .iconst 0, 1), (2, .aload_n 0, 1), (3, .iload_n 1, 1), (4, .iload_n 2, 1), (5, .invokevirtual 46, 3), (8, .i2l, 1), (9, .lastore, 1), (10, .goto 7, 3), (13, .astore 4, 2), (15, .iconst 1, 1), (16, .ireturn, 1), (17, .iconst 0, 1), (18, .ireturn, 1)]
theorem iL_area_ok : gDecs mL_area iL_area := by decide +kernel

theorem o_area {σ : gST} {a1 a2 : Int32} : (∃ v, (fArea σ a1 a2).1 = rI v) ∨ (fArea σ a1 a2).1 = xIOB := by
  unfold fArea
  repeat' split
  all_goals first | exact Or.inl ⟨_, rfl⟩ | exact Or.inr (rfl)
set_option maxHeartbeats 4000000 in
set_option maxRecDepth 100000 in
theorem ctL_area {κ : gK} {σ : gST} {a1 a2 : Int32} (h : gJ σ) : gCt κ mL_area 10 [.ref (κ.2.1 + 0), .int a1, .int a2, .ref (κ.2.1 + 390)] σ (rI (xC kO (fArea σ a1 a2).1)) (gOo (fArea σ a1 a2)) 1 := by
  rcases o_area (σ := σ) (a1 := a1) (a2 := a2) with ⟨v, he⟩ | he
  · have hc : gCt κ mX10_area 9 [.ref (κ.2.1 + 0), .int a1, .int a2] σ (rI v) (fArea σ a1 a2).2 1 := he ▸ ctX10_area h.ci.dw
    refine ct_ofH (by decide +kernel) rfl (Nat.le_of_ble_eq_true rfl) rfl ?_
    refine go_aload_n (q := 1) (gDec iL_area_ok 0 rfl) rfl rfl rfl ?_
    refine go_iconst (v := 0) (q := 2) (gDec iL_area_ok 1 rfl) (by decide) rfl ?_
    refine go_aload_n (q := 3) (gDec iL_area_ok 2 rfl) rfl rfl rfl ?_
    refine go_iload_n (q := 4) (gDec iL_area_ok 3 rfl) rfl rfl rfl ?_
    refine go_iload_n (q := 5) (gDec iL_area_ok 4 rfl) rfl rfl rfl ?_
    refine go_callV (n2 := 1) (q := 8) kL_46 hc (gDec iL_area_ok 5 rfl) rfl rfl (by decide) rfl rfl rfl (Nat.le_of_ble_eq_true rfl) rfl (gFit_rm (by decide) (by decide)) rfl ?_
    refine go_i2l (q := 9) (gDec iL_area_ok 6 rfl) rfl ?_
    refine go_last (q := 10) (gDec iL_area_ok 7 rfl) vp_00 rfl ?_
    refine go_goto (t := 17) (gDec iL_area_ok 8 rfl) (by decide) ?_
    refine go_iconst (v := 0) (q := 18) (gDec iL_area_ok 12 rfl) (by decide) rfl ?_
    exact go_ireturn (gDec iL_area_ok 13 rfl) rfl rfl (by rw [he, xc_i]) (gOo_i he) (by decide)
  · have hc : gCt κ mX10_area 9 [.ref (κ.2.1 + 0), .int a1, .int a2] σ xIOB (fArea σ a1 a2).2 1 := he ▸ ctX10_area h.ci.dw
    refine ct_ofH (by decide +kernel) rfl (Nat.le_of_ble_eq_true rfl) rfl ?_
    refine go_aload_n (q := 1) (gDec iL_area_ok 0 rfl) rfl rfl rfl ?_
    refine go_iconst (v := 0) (q := 2) (gDec iL_area_ok 1 rfl) (by decide) rfl ?_
    refine go_aload_n (q := 3) (gDec iL_area_ok 2 rfl) rfl rfl rfl ?_
    refine go_iload_n (q := 4) (gDec iL_area_ok 3 rfl) rfl rfl rfl ?_
    refine go_iload_n (q := 5) (gDec iL_area_ok 4 rfl) rfl rfl rfl ?_
    refine go_callV_c (n2 := 1) (t := 13) kL_46 hc (gDec iL_area_ok 5 rfl) rfl rfl (by decide) rfl rfl rfl (Nat.le_of_ble_eq_true rfl) rfl (gFit_rm (by decide) (by decide)) (pre := []) (x := ⟨0, 10, 13, 21⟩) (suf := []) rfl (fun _ h => absurd h List.not_mem_nil) rfl (by decide) wL_cO wL_kO rfl (fun q9 => ?_)
    refine go_astore (q := 15) (gDec iL_area_ok 9 rfl) (by decide) rfl ?_
    refine go_iconst (v := 1) (q := 16) (gDec iL_area_ok 10 rfl) (by decide) rfl ?_
    exact go_ireturn (gDec iL_area_ok 11 rfl) rfl rfl (by rw [he, xc_O_O]) (gOo_x he) (by decide)

def iL_setSide : List (Nat × Instr × Nat) := [(0, .aload 4, 2), (2, .iconst 0, 1), (3, .aload_n 0, 1), (4, .iload_n 1, 1), (5, .iload_n 2, 1), (6, .iload_n 3, 1), (7, .invokevirtual 49, 3), (10, .i2l, 1), (11, .lastore, 1), (12, .goto 11, 3), (15, .astore 5, 2), (17, .iconst 1, 1), (18, .ireturn, 1), (19, .astore 5, 2), (21, .iconst 2, 1), (22, .ireturn, 1), (23, .iconst 0, 1), (24, .ireturn, 1)]
theorem iL_setSide_ok : gDecs mL_setSide iL_setSide := by decide +kernel

theorem o_setSide {σ : gST} {a1 a2 a3 : Int32} : (∃ v, (fSetSide σ a1 a2 a3).1 = rI v) ∨ (fSetSide σ a1 a2 a3).1 = xIOB ∨ (fSetSide σ a1 a2 a3).1 = xIAE := by
  unfold fSetSide
  repeat' split
  all_goals first | exact Or.inl ⟨_, rfl⟩ | exact Or.inr (Or.inl rfl) | exact Or.inr (Or.inr (rfl))
set_option maxHeartbeats 4000000 in
set_option maxRecDepth 100000 in
theorem ctL_setSide {κ : gK} {σ : gST} {a1 a2 a3 : Int32} (h : gJ σ) : gCt κ mL_setSide 10 [.ref (κ.2.1 + 0), .int a1, .int a2, .int a3, .ref (κ.2.1 + 390)] σ (rI (xC kOA (fSetSide σ a1 a2 a3).1)) (gOo (fSetSide σ a1 a2 a3)) 1 := by
  rcases o_setSide (σ := σ) (a1 := a1) (a2 := a2) (a3 := a3) with ⟨v, he⟩ | he | he
  · have hc : gCt κ mX10_setSide 9 [.ref (κ.2.1 + 0), .int a1, .int a2, .int a3] σ (rI v) (fSetSide σ a1 a2 a3).2 1 := he ▸ ctX10_setSide h.ci.dw h.cb.1
    refine ct_ofH (by decide +kernel) rfl (Nat.le_of_ble_eq_true rfl) rfl ?_
    refine go_aload (q := 2) (gDec iL_setSide_ok 0 rfl) rfl rfl ?_
    refine go_iconst (v := 0) (q := 3) (gDec iL_setSide_ok 1 rfl) (by decide) rfl ?_
    refine go_aload_n (q := 4) (gDec iL_setSide_ok 2 rfl) rfl rfl rfl ?_
    refine go_iload_n (q := 5) (gDec iL_setSide_ok 3 rfl) rfl rfl rfl ?_
    refine go_iload_n (q := 6) (gDec iL_setSide_ok 4 rfl) rfl rfl rfl ?_
    refine go_iload_n (q := 7) (gDec iL_setSide_ok 5 rfl) rfl rfl rfl ?_
    refine go_callV (n2 := 1) (q := 10) kL_49 hc (gDec iL_setSide_ok 6 rfl) rfl rfl (by decide) rfl rfl rfl (Nat.le_of_ble_eq_true rfl) rfl (gFit_rm (by decide) (by decide)) rfl ?_
    refine go_i2l (q := 11) (gDec iL_setSide_ok 7 rfl) rfl ?_
    refine go_last (q := 12) (gDec iL_setSide_ok 8 rfl) vp_00 rfl ?_
    refine go_goto (t := 23) (gDec iL_setSide_ok 9 rfl) (by decide) ?_
    refine go_iconst (v := 0) (q := 24) (gDec iL_setSide_ok 16 rfl) (by decide) rfl ?_
    exact go_ireturn (gDec iL_setSide_ok 17 rfl) rfl rfl (by rw [he, xc_i]) (gOo_i he) (by decide)
  · have hc : gCt κ mX10_setSide 9 [.ref (κ.2.1 + 0), .int a1, .int a2, .int a3] σ xIOB (fSetSide σ a1 a2 a3).2 1 := he ▸ ctX10_setSide h.ci.dw h.cb.1
    refine ct_ofH (by decide +kernel) rfl (Nat.le_of_ble_eq_true rfl) rfl ?_
    refine go_aload (q := 2) (gDec iL_setSide_ok 0 rfl) rfl rfl ?_
    refine go_iconst (v := 0) (q := 3) (gDec iL_setSide_ok 1 rfl) (by decide) rfl ?_
    refine go_aload_n (q := 4) (gDec iL_setSide_ok 2 rfl) rfl rfl rfl ?_
    refine go_iload_n (q := 5) (gDec iL_setSide_ok 3 rfl) rfl rfl rfl ?_
    refine go_iload_n (q := 6) (gDec iL_setSide_ok 4 rfl) rfl rfl rfl ?_
    refine go_iload_n (q := 7) (gDec iL_setSide_ok 5 rfl) rfl rfl rfl ?_
    refine go_callV_c (n2 := 1) (t := 15) kL_49 hc (gDec iL_setSide_ok 6 rfl) rfl rfl (by decide) rfl rfl rfl (Nat.le_of_ble_eq_true rfl) rfl (gFit_rm (by decide) (by decide)) (pre := []) (x := ⟨0, 12, 15, 21⟩) (suf := [⟨0, 12, 19, 13⟩]) rfl (fun _ h => absurd h List.not_mem_nil) rfl (by decide) wL_cO wL_kO rfl (fun q9 => ?_)
    refine go_astore (q := 17) (gDec iL_setSide_ok 10 rfl) (by decide) rfl ?_
    refine go_iconst (v := 1) (q := 18) (gDec iL_setSide_ok 11 rfl) (by decide) rfl ?_
    exact go_ireturn (gDec iL_setSide_ok 12 rfl) rfl rfl (by rw [he, xc_OA_O]) (gOo_x he) (by decide)
  · have hc : gCt κ mX10_setSide 9 [.ref (κ.2.1 + 0), .int a1, .int a2, .int a3] σ xIAE (fSetSide σ a1 a2 a3).2 1 := he ▸ ctX10_setSide h.ci.dw h.cb.1
    refine ct_ofH (by decide +kernel) rfl (Nat.le_of_ble_eq_true rfl) rfl ?_
    refine go_aload (q := 2) (gDec iL_setSide_ok 0 rfl) rfl rfl ?_
    refine go_iconst (v := 0) (q := 3) (gDec iL_setSide_ok 1 rfl) (by decide) rfl ?_
    refine go_aload_n (q := 4) (gDec iL_setSide_ok 2 rfl) rfl rfl rfl ?_
    refine go_iload_n (q := 5) (gDec iL_setSide_ok 3 rfl) rfl rfl rfl ?_
    refine go_iload_n (q := 6) (gDec iL_setSide_ok 4 rfl) rfl rfl rfl ?_
    refine go_iload_n (q := 7) (gDec iL_setSide_ok 5 rfl) rfl rfl rfl ?_
    refine go_callV_c (n2 := 1) (t := 19) kL_49 hc (gDec iL_setSide_ok 6 rfl) rfl rfl (by decide) rfl rfl rfl (Nat.le_of_ble_eq_true rfl) rfl (gFit_rm (by decide) (by decide)) (pre := [⟨0, 12, 15, 21⟩]) (x := ⟨0, 12, 19, 13⟩) (suf := []) rfl (List.forall_mem_cons.mpr ⟨⟨by decide, _, wL_cO, List.mem_of_getElem? (i := 1) rfl⟩, (fun _ h => absurd h List.not_mem_nil)⟩) rfl (by decide) wL_cA wL_kA rfl (fun q9 => ?_)
    refine go_astore (q := 21) (gDec iL_setSide_ok 13 rfl) (by decide) rfl ?_
    refine go_iconst (v := 2) (q := 22) (gDec iL_setSide_ok 14 rfl) (by decide) rfl ?_
    exact go_ireturn (gDec iL_setSide_ok 15 rfl) rfl rfl (by rw [he, xc_OA_A]) (gOo_x he) (by decide)

def iL_follow : List (Nat × Instr × Nat) := [(0, .aload 6, 2), (2, .iconst 0, 1), (3, .aload_n 0, 1), (4, .iload_n 1, 1), (5, .iload_n 2, 1), (6, .iload_n 3, 1), (7, .iload 4, 2), (9, .iload 5, 2), (11, .invokevirtual 52, 3), (14, .i2l, 1), (15, .lastore, 1), (16, .goto 15, 3), (19, .astore 7, 2), (21, .iconst 1, 1), (22, .ireturn, 1), (23, .astore 7, 2), (25, .iconst 2, 1), (26, .ireturn, 1), (27, .astore 7, 2), (29, .iconst 3, 1), (30, .ireturn, 1), (31, .iconst 0, 1), (32, .ireturn, 1)]
theorem iL_follow_ok : gDecs mL_follow iL_follow := by decide +kernel

theorem o_follow {σ : gST} {a1 a2 a3 a4 a5 : Int32} : (∃ v, (fFollow σ a1 a2 a3 a4 a5).1 = rI v) ∨ (fFollow σ a1 a2 a3 a4 a5).1 = xIOB ∨ (fFollow σ a1 a2 a3 a4 a5).1 = xIAE ∨ (fFollow σ a1 a2 a3 a4 a5).1 = xUOE := by
  unfold fFollow
  repeat' split
  all_goals first | exact Or.inl ⟨_, rfl⟩ | exact Or.inr (Or.inl rfl) | exact Or.inr (Or.inr (Or.inl rfl)) | exact Or.inr (Or.inr (Or.inr (rfl)))
set_option maxHeartbeats 4000000 in
set_option maxRecDepth 100000 in
theorem ctL_follow {κ : gK} {σ : gST} {a1 a2 a3 a4 a5 : Int32} (h : gJ σ) : gCt κ mL_follow 10 [.ref (κ.2.1 + 0), .int a1, .int a2, .int a3, .int a4, .int a5, .ref (κ.2.1 + 390)] σ (rI (xC kOAU (fFollow σ a1 a2 a3 a4 a5).1)) (gOo (fFollow σ a1 a2 a3 a4 a5)) 1 := by
  rcases o_follow (σ := σ) (a1 := a1) (a2 := a2) (a3 := a3) (a4 := a4) (a5 := a5) with ⟨v, he⟩ | he | he | he
  · have hc : gCt κ mX10_follow 9 [.ref (κ.2.1 + 0), .int a1, .int a2, .int a3, .int a4, .int a5] σ (rI v) (fFollow σ a1 a2 a3 a4 a5).2 1 := he ▸ ctX10_follow h.ci.dw h.cb.1
    refine ct_ofH (by decide +kernel) rfl (Nat.le_of_ble_eq_true rfl) rfl ?_
    refine go_aload (q := 2) (gDec iL_follow_ok 0 rfl) rfl rfl ?_
    refine go_iconst (v := 0) (q := 3) (gDec iL_follow_ok 1 rfl) (by decide) rfl ?_
    refine go_aload_n (q := 4) (gDec iL_follow_ok 2 rfl) rfl rfl rfl ?_
    refine go_iload_n (q := 5) (gDec iL_follow_ok 3 rfl) rfl rfl rfl ?_
    refine go_iload_n (q := 6) (gDec iL_follow_ok 4 rfl) rfl rfl rfl ?_
    refine go_iload_n (q := 7) (gDec iL_follow_ok 5 rfl) rfl rfl rfl ?_
    refine go_iload (q := 9) (gDec iL_follow_ok 6 rfl) rfl rfl ?_
    refine go_iload (q := 11) (gDec iL_follow_ok 7 rfl) rfl rfl ?_
    refine go_callV (n2 := 1) (q := 14) kL_52 hc (gDec iL_follow_ok 8 rfl) rfl rfl (by decide) rfl rfl rfl (Nat.le_of_ble_eq_true rfl) rfl (gFit_rm (by decide) (by decide)) rfl ?_
    refine go_i2l (q := 15) (gDec iL_follow_ok 9 rfl) rfl ?_
    refine go_last (q := 16) (gDec iL_follow_ok 10 rfl) vp_00 rfl ?_
    refine go_goto (t := 31) (gDec iL_follow_ok 11 rfl) (by decide) ?_
    refine go_iconst (v := 0) (q := 32) (gDec iL_follow_ok 21 rfl) (by decide) rfl ?_
    exact go_ireturn (gDec iL_follow_ok 22 rfl) rfl rfl (by rw [he, xc_i]) (gOo_i he) (by decide)
  · have hc : gCt κ mX10_follow 9 [.ref (κ.2.1 + 0), .int a1, .int a2, .int a3, .int a4, .int a5] σ xIOB (fFollow σ a1 a2 a3 a4 a5).2 1 := he ▸ ctX10_follow h.ci.dw h.cb.1
    refine ct_ofH (by decide +kernel) rfl (Nat.le_of_ble_eq_true rfl) rfl ?_
    refine go_aload (q := 2) (gDec iL_follow_ok 0 rfl) rfl rfl ?_
    refine go_iconst (v := 0) (q := 3) (gDec iL_follow_ok 1 rfl) (by decide) rfl ?_
    refine go_aload_n (q := 4) (gDec iL_follow_ok 2 rfl) rfl rfl rfl ?_
    refine go_iload_n (q := 5) (gDec iL_follow_ok 3 rfl) rfl rfl rfl ?_
    refine go_iload_n (q := 6) (gDec iL_follow_ok 4 rfl) rfl rfl rfl ?_
    refine go_iload_n (q := 7) (gDec iL_follow_ok 5 rfl) rfl rfl rfl ?_
    refine go_iload (q := 9) (gDec iL_follow_ok 6 rfl) rfl rfl ?_
    refine go_iload (q := 11) (gDec iL_follow_ok 7 rfl) rfl rfl ?_
    refine go_callV_c (n2 := 1) (t := 19) kL_52 hc (gDec iL_follow_ok 8 rfl) rfl rfl (by decide) rfl rfl rfl (Nat.le_of_ble_eq_true rfl) rfl (gFit_rm (by decide) (by decide)) (pre := []) (x := ⟨0, 16, 19, 21⟩) (suf := [⟨0, 16, 23, 13⟩, ⟨0, 16, 27, 55⟩]) rfl (fun _ h => absurd h List.not_mem_nil) rfl (by decide) wL_cO wL_kO rfl (fun q9 => ?_)
    refine go_astore (q := 21) (gDec iL_follow_ok 12 rfl) (by decide) rfl ?_
    refine go_iconst (v := 1) (q := 22) (gDec iL_follow_ok 13 rfl) (by decide) rfl ?_
    exact go_ireturn (gDec iL_follow_ok 14 rfl) rfl rfl (by rw [he, xc_OAU_O]) (gOo_x he) (by decide)
  · have hc : gCt κ mX10_follow 9 [.ref (κ.2.1 + 0), .int a1, .int a2, .int a3, .int a4, .int a5] σ xIAE (fFollow σ a1 a2 a3 a4 a5).2 1 := he ▸ ctX10_follow h.ci.dw h.cb.1
    refine ct_ofH (by decide +kernel) rfl (Nat.le_of_ble_eq_true rfl) rfl ?_
    refine go_aload (q := 2) (gDec iL_follow_ok 0 rfl) rfl rfl ?_
    refine go_iconst (v := 0) (q := 3) (gDec iL_follow_ok 1 rfl) (by decide) rfl ?_
    refine go_aload_n (q := 4) (gDec iL_follow_ok 2 rfl) rfl rfl rfl ?_
    refine go_iload_n (q := 5) (gDec iL_follow_ok 3 rfl) rfl rfl rfl ?_
    refine go_iload_n (q := 6) (gDec iL_follow_ok 4 rfl) rfl rfl rfl ?_
    refine go_iload_n (q := 7) (gDec iL_follow_ok 5 rfl) rfl rfl rfl ?_
    refine go_iload (q := 9) (gDec iL_follow_ok 6 rfl) rfl rfl ?_
    refine go_iload (q := 11) (gDec iL_follow_ok 7 rfl) rfl rfl ?_
    refine go_callV_c (n2 := 1) (t := 23) kL_52 hc (gDec iL_follow_ok 8 rfl) rfl rfl (by decide) rfl rfl rfl (Nat.le_of_ble_eq_true rfl) rfl (gFit_rm (by decide) (by decide)) (pre := [⟨0, 16, 19, 21⟩]) (x := ⟨0, 16, 23, 13⟩) (suf := [⟨0, 16, 27, 55⟩]) rfl (List.forall_mem_cons.mpr ⟨⟨by decide, _, wL_cO, List.mem_of_getElem? (i := 1) rfl⟩, (fun _ h => absurd h List.not_mem_nil)⟩) rfl (by decide) wL_cA wL_kA rfl (fun q9 => ?_)
    refine go_astore (q := 25) (gDec iL_follow_ok 15 rfl) (by decide) rfl ?_
    refine go_iconst (v := 2) (q := 26) (gDec iL_follow_ok 16 rfl) (by decide) rfl ?_
    exact go_ireturn (gDec iL_follow_ok 17 rfl) rfl rfl (by rw [he, xc_OAU_A]) (gOo_x he) (by decide)
  · have hc : gCt κ mX10_follow 9 [.ref (κ.2.1 + 0), .int a1, .int a2, .int a3, .int a4, .int a5] σ xUOE (fFollow σ a1 a2 a3 a4 a5).2 1 := he ▸ ctX10_follow h.ci.dw h.cb.1
    refine ct_ofH (by decide +kernel) rfl (Nat.le_of_ble_eq_true rfl) rfl ?_
    refine go_aload (q := 2) (gDec iL_follow_ok 0 rfl) rfl rfl ?_
    refine go_iconst (v := 0) (q := 3) (gDec iL_follow_ok 1 rfl) (by decide) rfl ?_
    refine go_aload_n (q := 4) (gDec iL_follow_ok 2 rfl) rfl rfl rfl ?_
    refine go_iload_n (q := 5) (gDec iL_follow_ok 3 rfl) rfl rfl rfl ?_
    refine go_iload_n (q := 6) (gDec iL_follow_ok 4 rfl) rfl rfl rfl ?_
    refine go_iload_n (q := 7) (gDec iL_follow_ok 5 rfl) rfl rfl rfl ?_
    refine go_iload (q := 9) (gDec iL_follow_ok 6 rfl) rfl rfl ?_
    refine go_iload (q := 11) (gDec iL_follow_ok 7 rfl) rfl rfl ?_
    refine go_callV_c (n2 := 1) (t := 27) kL_52 hc (gDec iL_follow_ok 8 rfl) rfl rfl (by decide) rfl rfl rfl (Nat.le_of_ble_eq_true rfl) rfl (gFit_rm (by decide) (by decide)) (pre := [⟨0, 16, 19, 21⟩, ⟨0, 16, 23, 13⟩]) (x := ⟨0, 16, 27, 55⟩) (suf := []) rfl (List.forall_mem_cons.mpr ⟨⟨by decide, _, wL_cO, List.mem_of_getElem? (i := 3) rfl⟩, (List.forall_mem_cons.mpr ⟨⟨by decide, _, wL_cA, List.mem_of_getElem? (i := 4) rfl⟩, (fun _ h => absurd h List.not_mem_nil)⟩)⟩) rfl (by decide) wL_cU wL_kU rfl (fun q9 => ?_)
    refine go_astore (q := 29) (gDec iL_follow_ok 18 rfl) (by decide) rfl ?_
    refine go_iconst (v := 3) (q := 30) (gDec iL_follow_ok 19 rfl) (by decide) rfl ?_
    exact go_ireturn (gDec iL_follow_ok 20 rfl) rfl rfl (by rw [he, xc_OAU_U]) (gOo_x he) (by decide)

def iL_side : List (Nat × Instr × Nat) := [(0, .aload 4, 2), (2, .iconst 0, 1), (3, .aload_n 0, 1), (4, .iload_n 1, 1), (5, .iload_n 2, 1), (6, .iload_n 3, 1), (7, .invokevirtual 57, 3), (10, .i2l, 1), (11, .lastore, 1), (12, .goto 11, 3), (15, .astore 5, 2), (17, .iconst 1, 1), (18, .ireturn, 1), (19, .astore 5, 2), (21, .iconst 2, 1), (22, .ireturn, 1), (23, .iconst 0, 1), (24, .ireturn, 1)]
theorem iL_side_ok : gDecs mL_side iL_side := by decide +kernel

theorem o_side {σ : gST} {a1 a2 a3 : Int32} : (∃ v, (fSide σ a1 a2 a3).1 = rI v) ∨ (fSide σ a1 a2 a3).1 = xIOB ∨ (fSide σ a1 a2 a3).1 = xIAE := by
  unfold fSide
  repeat' split
  all_goals first | exact Or.inl ⟨_, rfl⟩ | exact Or.inr (Or.inl rfl) | exact Or.inr (Or.inr (rfl))
set_option maxHeartbeats 4000000 in
set_option maxRecDepth 100000 in
theorem ctL_side {κ : gK} {σ : gST} {a1 a2 a3 : Int32} (h : gJ σ) : gCt κ mL_side 10 [.ref (κ.2.1 + 0), .int a1, .int a2, .int a3, .ref (κ.2.1 + 390)] σ (rI (xC kOA (fSide σ a1 a2 a3).1)) (gOo (fSide σ a1 a2 a3)) 1 := by
  rcases o_side (σ := σ) (a1 := a1) (a2 := a2) (a3 := a3) with ⟨v, he⟩ | he | he
  · have hc : gCt κ mX10_side 9 [.ref (κ.2.1 + 0), .int a1, .int a2, .int a3] σ (rI v) (fSide σ a1 a2 a3).2 1 := he ▸ ctX10_side h.ci.dw
    refine ct_ofH (by decide +kernel) rfl (Nat.le_of_ble_eq_true rfl) rfl ?_
    refine go_aload (q := 2) (gDec iL_side_ok 0 rfl) rfl rfl ?_
    refine go_iconst (v := 0) (q := 3) (gDec iL_side_ok 1 rfl) (by decide) rfl ?_
    refine go_aload_n (q := 4) (gDec iL_side_ok 2 rfl) rfl rfl rfl ?_
    refine go_iload_n (q := 5) (gDec iL_side_ok 3 rfl) rfl rfl rfl ?_
    refine go_iload_n (q := 6) (gDec iL_side_ok 4 rfl) rfl rfl rfl ?_
    refine go_iload_n (q := 7) (gDec iL_side_ok 5 rfl) rfl rfl rfl ?_
    refine go_callV (n2 := 1) (q := 10) kL_57 hc (gDec iL_side_ok 6 rfl) rfl rfl (by decide) rfl rfl rfl (Nat.le_of_ble_eq_true rfl) rfl (gFit_rm (by decide) (by decide)) rfl ?_
    refine go_i2l (q := 11) (gDec iL_side_ok 7 rfl) rfl ?_
    refine go_last (q := 12) (gDec iL_side_ok 8 rfl) vp_00 rfl ?_
    refine go_goto (t := 23) (gDec iL_side_ok 9 rfl) (by decide) ?_
    refine go_iconst (v := 0) (q := 24) (gDec iL_side_ok 16 rfl) (by decide) rfl ?_
    exact go_ireturn (gDec iL_side_ok 17 rfl) rfl rfl (by rw [he, xc_i]) (gOo_i he) (by decide)
  · have hc : gCt κ mX10_side 9 [.ref (κ.2.1 + 0), .int a1, .int a2, .int a3] σ xIOB (fSide σ a1 a2 a3).2 1 := he ▸ ctX10_side h.ci.dw
    refine ct_ofH (by decide +kernel) rfl (Nat.le_of_ble_eq_true rfl) rfl ?_
    refine go_aload (q := 2) (gDec iL_side_ok 0 rfl) rfl rfl ?_
    refine go_iconst (v := 0) (q := 3) (gDec iL_side_ok 1 rfl) (by decide) rfl ?_
    refine go_aload_n (q := 4) (gDec iL_side_ok 2 rfl) rfl rfl rfl ?_
    refine go_iload_n (q := 5) (gDec iL_side_ok 3 rfl) rfl rfl rfl ?_
    refine go_iload_n (q := 6) (gDec iL_side_ok 4 rfl) rfl rfl rfl ?_
    refine go_iload_n (q := 7) (gDec iL_side_ok 5 rfl) rfl rfl rfl ?_
    refine go_callV_c (n2 := 1) (t := 15) kL_57 hc (gDec iL_side_ok 6 rfl) rfl rfl (by decide) rfl rfl rfl (Nat.le_of_ble_eq_true rfl) rfl (gFit_rm (by decide) (by decide)) (pre := []) (x := ⟨0, 12, 15, 21⟩) (suf := [⟨0, 12, 19, 13⟩]) rfl (fun _ h => absurd h List.not_mem_nil) rfl (by decide) wL_cO wL_kO rfl (fun q9 => ?_)
    refine go_astore (q := 17) (gDec iL_side_ok 10 rfl) (by decide) rfl ?_
    refine go_iconst (v := 1) (q := 18) (gDec iL_side_ok 11 rfl) (by decide) rfl ?_
    exact go_ireturn (gDec iL_side_ok 12 rfl) rfl rfl (by rw [he, xc_OA_O]) (gOo_x he) (by decide)
  · have hc : gCt κ mX10_side 9 [.ref (κ.2.1 + 0), .int a1, .int a2, .int a3] σ xIAE (fSide σ a1 a2 a3).2 1 := he ▸ ctX10_side h.ci.dw
    refine ct_ofH (by decide +kernel) rfl (Nat.le_of_ble_eq_true rfl) rfl ?_
    refine go_aload (q := 2) (gDec iL_side_ok 0 rfl) rfl rfl ?_
    refine go_iconst (v := 0) (q := 3) (gDec iL_side_ok 1 rfl) (by decide) rfl ?_
    refine go_aload_n (q := 4) (gDec iL_side_ok 2 rfl) rfl rfl rfl ?_
    refine go_iload_n (q := 5) (gDec iL_side_ok 3 rfl) rfl rfl rfl ?_
    refine go_iload_n (q := 6) (gDec iL_side_ok 4 rfl) rfl rfl rfl ?_
    refine go_iload_n (q := 7) (gDec iL_side_ok 5 rfl) rfl rfl rfl ?_
    refine go_callV_c (n2 := 1) (t := 19) kL_57 hc (gDec iL_side_ok 6 rfl) rfl rfl (by decide) rfl rfl rfl (Nat.le_of_ble_eq_true rfl) rfl (gFit_rm (by decide) (by decide)) (pre := [⟨0, 12, 15, 21⟩]) (x := ⟨0, 12, 19, 13⟩) (suf := []) rfl (List.forall_mem_cons.mpr ⟨⟨by decide, _, wL_cO, List.mem_of_getElem? (i := 1) rfl⟩, (fun _ h => absurd h List.not_mem_nil)⟩) rfl (by decide) wL_cA wL_kA rfl (fun q9 => ?_)
    refine go_astore (q := 21) (gDec iL_side_ok 13 rfl) (by decide) rfl ?_
    refine go_iconst (v := 2) (q := 22) (gDec iL_side_ok 14 rfl) (by decide) rfl ?_
    exact go_ireturn (gDec iL_side_ok 15 rfl) rfl rfl (by rw [he, xc_OA_A]) (gOo_x he) (by decide)

def iL_followers : List (Nat × Instr × Nat) := [(0, .aload_n 3, 1), (1, .iconst 0, 1), (2, .aload_n 0, 1), (3, .iload_n 1, 1), (4, .iload_n 2, 1), (5, .invokevirtual 60, 3), (8, .i2l, 1), (9, .lastore, 1), (10, .goto 7, 3), (13, .astore 4, 2), (15, .iconst 1, 1), (16, .ireturn, 1), (17, .iconst 0, 1), (18, .ireturn, 1)]
theorem iL_followers_ok : gDecs mL_followers iL_followers := by decide +kernel

theorem o_followers {σ : gST} {a1 a2 : Int32} : (∃ v, (fFollowers σ a1 a2).1 = rI v) ∨ (fFollowers σ a1 a2).1 = xIOB := by
  unfold fFollowers
  repeat' split
  all_goals first | exact Or.inl ⟨_, rfl⟩ | exact Or.inr (rfl)
set_option maxHeartbeats 4000000 in
set_option maxRecDepth 100000 in
theorem ctL_followers {κ : gK} {σ : gST} {a1 a2 : Int32} (h : gJ σ) : gCt κ mL_followers 10 [.ref (κ.2.1 + 0), .int a1, .int a2, .ref (κ.2.1 + 390)] σ (rI (xC kO (fFollowers σ a1 a2).1)) (gOo (fFollowers σ a1 a2)) 1 := by
  rcases o_followers (σ := σ) (a1 := a1) (a2 := a2) with ⟨v, he⟩ | he
  · have hc : gCt κ mX10_followers 9 [.ref (κ.2.1 + 0), .int a1, .int a2] σ (rI v) (fFollowers σ a1 a2).2 1 := he ▸ ctX10_followers h.ci.dw
    refine ct_ofH (by decide +kernel) rfl (Nat.le_of_ble_eq_true rfl) rfl ?_
    refine go_aload_n (q := 1) (gDec iL_followers_ok 0 rfl) rfl rfl rfl ?_
    refine go_iconst (v := 0) (q := 2) (gDec iL_followers_ok 1 rfl) (by decide) rfl ?_
    refine go_aload_n (q := 3) (gDec iL_followers_ok 2 rfl) rfl rfl rfl ?_
    refine go_iload_n (q := 4) (gDec iL_followers_ok 3 rfl) rfl rfl rfl ?_
    refine go_iload_n (q := 5) (gDec iL_followers_ok 4 rfl) rfl rfl rfl ?_
    refine go_callV (n2 := 1) (q := 8) kL_60 hc (gDec iL_followers_ok 5 rfl) rfl rfl (by decide) rfl rfl rfl (Nat.le_of_ble_eq_true rfl) rfl (gFit_rm (by decide) (by decide)) rfl ?_
    refine go_i2l (q := 9) (gDec iL_followers_ok 6 rfl) rfl ?_
    refine go_last (q := 10) (gDec iL_followers_ok 7 rfl) vp_00 rfl ?_
    refine go_goto (t := 17) (gDec iL_followers_ok 8 rfl) (by decide) ?_
    refine go_iconst (v := 0) (q := 18) (gDec iL_followers_ok 12 rfl) (by decide) rfl ?_
    exact go_ireturn (gDec iL_followers_ok 13 rfl) rfl rfl (by rw [he, xc_i]) (gOo_i he) (by decide)
  · have hc : gCt κ mX10_followers 9 [.ref (κ.2.1 + 0), .int a1, .int a2] σ xIOB (fFollowers σ a1 a2).2 1 := he ▸ ctX10_followers h.ci.dw
    refine ct_ofH (by decide +kernel) rfl (Nat.le_of_ble_eq_true rfl) rfl ?_
    refine go_aload_n (q := 1) (gDec iL_followers_ok 0 rfl) rfl rfl rfl ?_
    refine go_iconst (v := 0) (q := 2) (gDec iL_followers_ok 1 rfl) (by decide) rfl ?_
    refine go_aload_n (q := 3) (gDec iL_followers_ok 2 rfl) rfl rfl rfl ?_
    refine go_iload_n (q := 4) (gDec iL_followers_ok 3 rfl) rfl rfl rfl ?_
    refine go_iload_n (q := 5) (gDec iL_followers_ok 4 rfl) rfl rfl rfl ?_
    refine go_callV_c (n2 := 1) (t := 13) kL_60 hc (gDec iL_followers_ok 5 rfl) rfl rfl (by decide) rfl rfl rfl (Nat.le_of_ble_eq_true rfl) rfl (gFit_rm (by decide) (by decide)) (pre := []) (x := ⟨0, 10, 13, 21⟩) (suf := []) rfl (fun _ h => absurd h List.not_mem_nil) rfl (by decide) wL_cO wL_kO rfl (fun q9 => ?_)
    refine go_astore (q := 15) (gDec iL_followers_ok 9 rfl) (by decide) rfl ?_
    refine go_iconst (v := 1) (q := 16) (gDec iL_followers_ok 10 rfl) (by decide) rfl ?_
    exact go_ireturn (gDec iL_followers_ok 11 rfl) rfl rfl (by rw [he, xc_O_O]) (gOo_x he) (by decide)

def iL_setClass : List (Nat × Instr × Nat) := [(0, .aload 4, 2), (2, .iconst 0, 1), (3, .aload_n 0, 1), (4, .iload_n 1, 1), (5, .iload_n 2, 1), (6, .iload_n 3, 1), (7, .invokevirtual 63, 3), (10, .i2l, 1), (11, .lastore, 1), (12, .goto 11, 3), (15, .astore 5, 2), (17, .iconst 1, 1), (18, .ireturn, 1), (19, .astore 5, 2), (21, .iconst 2, 1), (22, .ireturn, 1), (23, .iconst 0, 1), (24, .ireturn, 1)]
theorem iL_setClass_ok : gDecs mL_setClass iL_setClass := by decide +kernel

theorem o_setClass {σ : gST} {a1 a2 a3 : Int32} : (∃ v, (fSetClass σ a1 a2 a3).1 = rI v) ∨ (fSetClass σ a1 a2 a3).1 = xIOB ∨ (fSetClass σ a1 a2 a3).1 = xIAE := by
  unfold fSetClass
  repeat' split
  all_goals first | exact Or.inl ⟨_, rfl⟩ | exact Or.inr (Or.inl rfl) | exact Or.inr (Or.inr (rfl))
set_option maxHeartbeats 4000000 in
set_option maxRecDepth 100000 in
theorem ctL_setClass {κ : gK} {σ : gST} {a1 a2 a3 : Int32} (hb : g01 a2) (h : gJ σ) : gCt κ mL_setClass 10 [.ref (κ.2.1 + 0), .int a1, .int a2, .int a3, .ref (κ.2.1 + 390)] σ (rI (xC kOA (fSetClass σ a1 a2 a3).1)) (gOo (fSetClass σ a1 a2 a3)) 1 := by
  rcases o_setClass (σ := σ) (a1 := a1) (a2 := a2) (a3 := a3) with ⟨v, he⟩ | he | he
  · have hc : gCt κ mX10_setClass 9 [.ref (κ.2.1 + 0), .int a1, .int a2, .int a3] σ (rI v) (fSetClass σ a1 a2 a3).2 1 := he ▸ ctX10_setClass hb h.ci.dw h.cb.1
    refine ct_ofH (by decide +kernel) rfl (Nat.le_of_ble_eq_true rfl) rfl ?_
    refine go_aload (q := 2) (gDec iL_setClass_ok 0 rfl) rfl rfl ?_
    refine go_iconst (v := 0) (q := 3) (gDec iL_setClass_ok 1 rfl) (by decide) rfl ?_
    refine go_aload_n (q := 4) (gDec iL_setClass_ok 2 rfl) rfl rfl rfl ?_
    refine go_iload_n (q := 5) (gDec iL_setClass_ok 3 rfl) rfl rfl rfl ?_
    refine go_iload_n (q := 6) (gDec iL_setClass_ok 4 rfl) rfl rfl rfl ?_
    refine go_iload_n (q := 7) (gDec iL_setClass_ok 5 rfl) rfl rfl rfl ?_
    refine go_callV (n2 := 1) (q := 10) kL_63 hc (gDec iL_setClass_ok 6 rfl) rfl rfl (by decide) rfl rfl rfl (Nat.le_of_ble_eq_true rfl) rfl (gFit_rm (by decide) (by decide)) rfl ?_
    refine go_i2l (q := 11) (gDec iL_setClass_ok 7 rfl) rfl ?_
    refine go_last (q := 12) (gDec iL_setClass_ok 8 rfl) vp_00 rfl ?_
    refine go_goto (t := 23) (gDec iL_setClass_ok 9 rfl) (by decide) ?_
    refine go_iconst (v := 0) (q := 24) (gDec iL_setClass_ok 16 rfl) (by decide) rfl ?_
    exact go_ireturn (gDec iL_setClass_ok 17 rfl) rfl rfl (by rw [he, xc_i]) (gOo_i he) (by decide)
  · have hc : gCt κ mX10_setClass 9 [.ref (κ.2.1 + 0), .int a1, .int a2, .int a3] σ xIOB (fSetClass σ a1 a2 a3).2 1 := he ▸ ctX10_setClass hb h.ci.dw h.cb.1
    refine ct_ofH (by decide +kernel) rfl (Nat.le_of_ble_eq_true rfl) rfl ?_
    refine go_aload (q := 2) (gDec iL_setClass_ok 0 rfl) rfl rfl ?_
    refine go_iconst (v := 0) (q := 3) (gDec iL_setClass_ok 1 rfl) (by decide) rfl ?_
    refine go_aload_n (q := 4) (gDec iL_setClass_ok 2 rfl) rfl rfl rfl ?_
    refine go_iload_n (q := 5) (gDec iL_setClass_ok 3 rfl) rfl rfl rfl ?_
    refine go_iload_n (q := 6) (gDec iL_setClass_ok 4 rfl) rfl rfl rfl ?_
    refine go_iload_n (q := 7) (gDec iL_setClass_ok 5 rfl) rfl rfl rfl ?_
    refine go_callV_c (n2 := 1) (t := 15) kL_63 hc (gDec iL_setClass_ok 6 rfl) rfl rfl (by decide) rfl rfl rfl (Nat.le_of_ble_eq_true rfl) rfl (gFit_rm (by decide) (by decide)) (pre := []) (x := ⟨0, 12, 15, 21⟩) (suf := [⟨0, 12, 19, 13⟩]) rfl (fun _ h => absurd h List.not_mem_nil) rfl (by decide) wL_cO wL_kO rfl (fun q9 => ?_)
    refine go_astore (q := 17) (gDec iL_setClass_ok 10 rfl) (by decide) rfl ?_
    refine go_iconst (v := 1) (q := 18) (gDec iL_setClass_ok 11 rfl) (by decide) rfl ?_
    exact go_ireturn (gDec iL_setClass_ok 12 rfl) rfl rfl (by rw [he, xc_OA_O]) (gOo_x he) (by decide)
  · have hc : gCt κ mX10_setClass 9 [.ref (κ.2.1 + 0), .int a1, .int a2, .int a3] σ xIAE (fSetClass σ a1 a2 a3).2 1 := he ▸ ctX10_setClass hb h.ci.dw h.cb.1
    refine ct_ofH (by decide +kernel) rfl (Nat.le_of_ble_eq_true rfl) rfl ?_
    refine go_aload (q := 2) (gDec iL_setClass_ok 0 rfl) rfl rfl ?_
    refine go_iconst (v := 0) (q := 3) (gDec iL_setClass_ok 1 rfl) (by decide) rfl ?_
    refine go_aload_n (q := 4) (gDec iL_setClass_ok 2 rfl) rfl rfl rfl ?_
    refine go_iload_n (q := 5) (gDec iL_setClass_ok 3 rfl) rfl rfl rfl ?_
    refine go_iload_n (q := 6) (gDec iL_setClass_ok 4 rfl) rfl rfl rfl ?_
    refine go_iload_n (q := 7) (gDec iL_setClass_ok 5 rfl) rfl rfl rfl ?_
    refine go_callV_c (n2 := 1) (t := 19) kL_63 hc (gDec iL_setClass_ok 6 rfl) rfl rfl (by decide) rfl rfl rfl (Nat.le_of_ble_eq_true rfl) rfl (gFit_rm (by decide) (by decide)) (pre := [⟨0, 12, 15, 21⟩]) (x := ⟨0, 12, 19, 13⟩) (suf := []) rfl (List.forall_mem_cons.mpr ⟨⟨by decide, _, wL_cO, List.mem_of_getElem? (i := 1) rfl⟩, (fun _ h => absurd h List.not_mem_nil)⟩) rfl (by decide) wL_cA wL_kA rfl (fun q9 => ?_)
    refine go_astore (q := 21) (gDec iL_setClass_ok 13 rfl) (by decide) rfl ?_
    refine go_iconst (v := 2) (q := 22) (gDec iL_setClass_ok 14 rfl) (by decide) rfl ?_
    exact go_ireturn (gDec iL_setClass_ok 15 rfl) rfl rfl (by rw [he, xc_OA_A]) (gOo_x he) (by decide)

def iL_kernClasses : List (Nat × Instr × Nat) := [(0, .aload 4, 2), (2, .iconst 0, 1), (3, .aload_n 0, 1), (4, .iload_n 1, 1), (5, .iload_n 2, 1), (6, .iload_n 3, 1), (7, .invokevirtual 67, 3), (10, .i2l, 1), (11, .lastore, 1), (12, .goto 11, 3), (15, .astore 5, 2), (17, .iconst 1, 1), (18, .ireturn, 1), (19, .astore 5, 2), (21, .iconst 2, 1), (22, .ireturn, 1), (23, .iconst 0, 1), (24, .ireturn, 1)]
theorem iL_kernClasses_ok : gDecs mL_kernClasses iL_kernClasses := by decide +kernel

theorem o_kernClasses {σ : gST} {a1 a2 a3 : Int32} : (∃ v, (fKernClasses σ a1 a2 a3).1 = rI v) ∨ (fKernClasses σ a1 a2 a3).1 = xIOB ∨ (fKernClasses σ a1 a2 a3).1 = xIAE := by
  unfold fKernClasses
  repeat' split
  all_goals first | exact Or.inl ⟨_, rfl⟩ | exact Or.inr (Or.inl rfl) | exact Or.inr (Or.inr (rfl))
set_option maxHeartbeats 4000000 in
set_option maxRecDepth 100000 in
theorem ctL_kernClasses {κ : gK} {σ : gST} {a1 a2 a3 : Int32} (h : gJ σ) : gCt κ mL_kernClasses 10 [.ref (κ.2.1 + 0), .int a1, .int a2, .int a3, .ref (κ.2.1 + 390)] σ (rI (xC kOA (fKernClasses σ a1 a2 a3).1)) (gOo (fKernClasses σ a1 a2 a3)) 1 := by
  rcases o_kernClasses (σ := σ) (a1 := a1) (a2 := a2) (a3 := a3) with ⟨v, he⟩ | he | he
  · have hc : gCt κ mX10_kernClasses 9 [.ref (κ.2.1 + 0), .int a1, .int a2, .int a3] σ (rI v) (fKernClasses σ a1 a2 a3).2 1 := he ▸ ctX10_kernClasses h.ci.dw h.cb.1
    refine ct_ofH (by decide +kernel) rfl (Nat.le_of_ble_eq_true rfl) rfl ?_
    refine go_aload (q := 2) (gDec iL_kernClasses_ok 0 rfl) rfl rfl ?_
    refine go_iconst (v := 0) (q := 3) (gDec iL_kernClasses_ok 1 rfl) (by decide) rfl ?_
    refine go_aload_n (q := 4) (gDec iL_kernClasses_ok 2 rfl) rfl rfl rfl ?_
    refine go_iload_n (q := 5) (gDec iL_kernClasses_ok 3 rfl) rfl rfl rfl ?_
    refine go_iload_n (q := 6) (gDec iL_kernClasses_ok 4 rfl) rfl rfl rfl ?_
    refine go_iload_n (q := 7) (gDec iL_kernClasses_ok 5 rfl) rfl rfl rfl ?_
    refine go_callV (n2 := 1) (q := 10) kL_67 hc (gDec iL_kernClasses_ok 6 rfl) rfl rfl (by decide) rfl rfl rfl (Nat.le_of_ble_eq_true rfl) rfl (gFit_rm (by decide) (by decide)) rfl ?_
    refine go_i2l (q := 11) (gDec iL_kernClasses_ok 7 rfl) rfl ?_
    refine go_last (q := 12) (gDec iL_kernClasses_ok 8 rfl) vp_00 rfl ?_
    refine go_goto (t := 23) (gDec iL_kernClasses_ok 9 rfl) (by decide) ?_
    refine go_iconst (v := 0) (q := 24) (gDec iL_kernClasses_ok 16 rfl) (by decide) rfl ?_
    exact go_ireturn (gDec iL_kernClasses_ok 17 rfl) rfl rfl (by rw [he, xc_i]) (gOo_i he) (by decide)
  · have hc : gCt κ mX10_kernClasses 9 [.ref (κ.2.1 + 0), .int a1, .int a2, .int a3] σ xIOB (fKernClasses σ a1 a2 a3).2 1 := he ▸ ctX10_kernClasses h.ci.dw h.cb.1
    refine ct_ofH (by decide +kernel) rfl (Nat.le_of_ble_eq_true rfl) rfl ?_
    refine go_aload (q := 2) (gDec iL_kernClasses_ok 0 rfl) rfl rfl ?_
    refine go_iconst (v := 0) (q := 3) (gDec iL_kernClasses_ok 1 rfl) (by decide) rfl ?_
    refine go_aload_n (q := 4) (gDec iL_kernClasses_ok 2 rfl) rfl rfl rfl ?_
    refine go_iload_n (q := 5) (gDec iL_kernClasses_ok 3 rfl) rfl rfl rfl ?_
    refine go_iload_n (q := 6) (gDec iL_kernClasses_ok 4 rfl) rfl rfl rfl ?_
    refine go_iload_n (q := 7) (gDec iL_kernClasses_ok 5 rfl) rfl rfl rfl ?_
    refine go_callV_c (n2 := 1) (t := 15) kL_67 hc (gDec iL_kernClasses_ok 6 rfl) rfl rfl (by decide) rfl rfl rfl (Nat.le_of_ble_eq_true rfl) rfl (gFit_rm (by decide) (by decide)) (pre := []) (x := ⟨0, 12, 15, 21⟩) (suf := [⟨0, 12, 19, 13⟩]) rfl (fun _ h => absurd h List.not_mem_nil) rfl (by decide) wL_cO wL_kO rfl (fun q9 => ?_)
    refine go_astore (q := 17) (gDec iL_kernClasses_ok 10 rfl) (by decide) rfl ?_
    refine go_iconst (v := 1) (q := 18) (gDec iL_kernClasses_ok 11 rfl) (by decide) rfl ?_
    exact go_ireturn (gDec iL_kernClasses_ok 12 rfl) rfl rfl (by rw [he, xc_OA_O]) (gOo_x he) (by decide)
  · have hc : gCt κ mX10_kernClasses 9 [.ref (κ.2.1 + 0), .int a1, .int a2, .int a3] σ xIAE (fKernClasses σ a1 a2 a3).2 1 := he ▸ ctX10_kernClasses h.ci.dw h.cb.1
    refine ct_ofH (by decide +kernel) rfl (Nat.le_of_ble_eq_true rfl) rfl ?_
    refine go_aload (q := 2) (gDec iL_kernClasses_ok 0 rfl) rfl rfl ?_
    refine go_iconst (v := 0) (q := 3) (gDec iL_kernClasses_ok 1 rfl) (by decide) rfl ?_
    refine go_aload_n (q := 4) (gDec iL_kernClasses_ok 2 rfl) rfl rfl rfl ?_
    refine go_iload_n (q := 5) (gDec iL_kernClasses_ok 3 rfl) rfl rfl rfl ?_
    refine go_iload_n (q := 6) (gDec iL_kernClasses_ok 4 rfl) rfl rfl rfl ?_
    refine go_iload_n (q := 7) (gDec iL_kernClasses_ok 5 rfl) rfl rfl rfl ?_
    refine go_callV_c (n2 := 1) (t := 19) kL_67 hc (gDec iL_kernClasses_ok 6 rfl) rfl rfl (by decide) rfl rfl rfl (Nat.le_of_ble_eq_true rfl) rfl (gFit_rm (by decide) (by decide)) (pre := [⟨0, 12, 15, 21⟩]) (x := ⟨0, 12, 19, 13⟩) (suf := []) rfl (List.forall_mem_cons.mpr ⟨⟨by decide, _, wL_cO, List.mem_of_getElem? (i := 1) rfl⟩, (fun _ h => absurd h List.not_mem_nil)⟩) rfl (by decide) wL_cA wL_kA rfl (fun q9 => ?_)
    refine go_astore (q := 21) (gDec iL_kernClasses_ok 13 rfl) (by decide) rfl ?_
    refine go_iconst (v := 2) (q := 22) (gDec iL_kernClasses_ok 14 rfl) (by decide) rfl ?_
    exact go_ireturn (gDec iL_kernClasses_ok 15 rfl) rfl rfl (by rw [he, xc_OA_A]) (gOo_x he) (by decide)

def iL_kernPair : List (Nat × Instr × Nat) := [(0, .aload 4, 2), (2, .iconst 0, 1), (3, .aload_n 0, 1), (4, .iload_n 1, 1), (5, .iload_n 2, 1), (6, .iload_n 3, 1), (7, .invokevirtual 70, 3), (10, .i2l, 1), (11, .lastore, 1), (12, .goto 15, 3), (15, .astore 5, 2), (17, .iconst 1, 1), (18, .ireturn, 1), (19, .astore 5, 2), (21, .iconst 2, 1), (22, .ireturn, 1), (23, .astore 5, 2), (25, .iconst 3, 1), (26, .ireturn, 1), (27, .iconst 0, 1), (28, .ireturn, 1)]
theorem iL_kernPair_ok : gDecs mL_kernPair iL_kernPair := by decide +kernel

theorem o_kernPair {σ : gST} {a1 a2 a3 : Int32} : (∃ v, (fKernPair σ a1 a2 a3).1 = rI v) ∨ (fKernPair σ a1 a2 a3).1 = xIOB ∨ (fKernPair σ a1 a2 a3).1 = xIAE ∨ (fKernPair σ a1 a2 a3).1 = xISE := by
  unfold fKernPair
  repeat' split
  all_goals first | exact Or.inl ⟨_, rfl⟩ | exact Or.inr (Or.inl rfl) | exact Or.inr (Or.inr (Or.inl rfl)) | exact Or.inr (Or.inr (Or.inr (rfl)))
set_option maxHeartbeats 4000000 in
set_option maxRecDepth 100000 in
theorem ctL_kernPair {κ : gK} {σ : gST} {a1 a2 a3 : Int32} (h : gJ σ) : gCt κ mL_kernPair 10 [.ref (κ.2.1 + 0), .int a1, .int a2, .int a3, .ref (κ.2.1 + 390)] σ (rI (xC kOAS (fKernPair σ a1 a2 a3).1)) (gOo (fKernPair σ a1 a2 a3)) 1 := by
  rcases o_kernPair (σ := σ) (a1 := a1) (a2 := a2) (a3 := a3) with ⟨v, he⟩ | he | he | he
  · have hc : gCt κ mX10_kernPair 9 [.ref (κ.2.1 + 0), .int a1, .int a2, .int a3] σ (rI v) (fKernPair σ a1 a2 a3).2 1 := he ▸ ctX10_kernPair h.ci.dw h.cb.1
    refine ct_ofH (by decide +kernel) rfl (Nat.le_of_ble_eq_true rfl) rfl ?_
    refine go_aload (q := 2) (gDec iL_kernPair_ok 0 rfl) rfl rfl ?_
    refine go_iconst (v := 0) (q := 3) (gDec iL_kernPair_ok 1 rfl) (by decide) rfl ?_
    refine go_aload_n (q := 4) (gDec iL_kernPair_ok 2 rfl) rfl rfl rfl ?_
    refine go_iload_n (q := 5) (gDec iL_kernPair_ok 3 rfl) rfl rfl rfl ?_
    refine go_iload_n (q := 6) (gDec iL_kernPair_ok 4 rfl) rfl rfl rfl ?_
    refine go_iload_n (q := 7) (gDec iL_kernPair_ok 5 rfl) rfl rfl rfl ?_
    refine go_callV (n2 := 1) (q := 10) kL_70 hc (gDec iL_kernPair_ok 6 rfl) rfl rfl (by decide) rfl rfl rfl (Nat.le_of_ble_eq_true rfl) rfl (gFit_rm (by decide) (by decide)) rfl ?_
    refine go_i2l (q := 11) (gDec iL_kernPair_ok 7 rfl) rfl ?_
    refine go_last (q := 12) (gDec iL_kernPair_ok 8 rfl) vp_00 rfl ?_
    refine go_goto (t := 27) (gDec iL_kernPair_ok 9 rfl) (by decide) ?_
    refine go_iconst (v := 0) (q := 28) (gDec iL_kernPair_ok 19 rfl) (by decide) rfl ?_
    exact go_ireturn (gDec iL_kernPair_ok 20 rfl) rfl rfl (by rw [he, xc_i]) (gOo_i he) (by decide)
  · have hc : gCt κ mX10_kernPair 9 [.ref (κ.2.1 + 0), .int a1, .int a2, .int a3] σ xIOB (fKernPair σ a1 a2 a3).2 1 := he ▸ ctX10_kernPair h.ci.dw h.cb.1
    refine ct_ofH (by decide +kernel) rfl (Nat.le_of_ble_eq_true rfl) rfl ?_
    refine go_aload (q := 2) (gDec iL_kernPair_ok 0 rfl) rfl rfl ?_
    refine go_iconst (v := 0) (q := 3) (gDec iL_kernPair_ok 1 rfl) (by decide) rfl ?_
    refine go_aload_n (q := 4) (gDec iL_kernPair_ok 2 rfl) rfl rfl rfl ?_
    refine go_iload_n (q := 5) (gDec iL_kernPair_ok 3 rfl) rfl rfl rfl ?_
    refine go_iload_n (q := 6) (gDec iL_kernPair_ok 4 rfl) rfl rfl rfl ?_
    refine go_iload_n (q := 7) (gDec iL_kernPair_ok 5 rfl) rfl rfl rfl ?_
    refine go_callV_c (n2 := 1) (t := 15) kL_70 hc (gDec iL_kernPair_ok 6 rfl) rfl rfl (by decide) rfl rfl rfl (Nat.le_of_ble_eq_true rfl) rfl (gFit_rm (by decide) (by decide)) (pre := []) (x := ⟨0, 12, 15, 21⟩) (suf := [⟨0, 12, 19, 13⟩, ⟨0, 12, 23, 15⟩]) rfl (fun _ h => absurd h List.not_mem_nil) rfl (by decide) wL_cO wL_kO rfl (fun q9 => ?_)
    refine go_astore (q := 17) (gDec iL_kernPair_ok 10 rfl) (by decide) rfl ?_
    refine go_iconst (v := 1) (q := 18) (gDec iL_kernPair_ok 11 rfl) (by decide) rfl ?_
    exact go_ireturn (gDec iL_kernPair_ok 12 rfl) rfl rfl (by rw [he, xc_OAS_O]) (gOo_x he) (by decide)
  · have hc : gCt κ mX10_kernPair 9 [.ref (κ.2.1 + 0), .int a1, .int a2, .int a3] σ xIAE (fKernPair σ a1 a2 a3).2 1 := he ▸ ctX10_kernPair h.ci.dw h.cb.1
    refine ct_ofH (by decide +kernel) rfl (Nat.le_of_ble_eq_true rfl) rfl ?_
    refine go_aload (q := 2) (gDec iL_kernPair_ok 0 rfl) rfl rfl ?_
    refine go_iconst (v := 0) (q := 3) (gDec iL_kernPair_ok 1 rfl) (by decide) rfl ?_
    refine go_aload_n (q := 4) (gDec iL_kernPair_ok 2 rfl) rfl rfl rfl ?_
    refine go_iload_n (q := 5) (gDec iL_kernPair_ok 3 rfl) rfl rfl rfl ?_
    refine go_iload_n (q := 6) (gDec iL_kernPair_ok 4 rfl) rfl rfl rfl ?_
    refine go_iload_n (q := 7) (gDec iL_kernPair_ok 5 rfl) rfl rfl rfl ?_
    refine go_callV_c (n2 := 1) (t := 19) kL_70 hc (gDec iL_kernPair_ok 6 rfl) rfl rfl (by decide) rfl rfl rfl (Nat.le_of_ble_eq_true rfl) rfl (gFit_rm (by decide) (by decide)) (pre := [⟨0, 12, 15, 21⟩]) (x := ⟨0, 12, 19, 13⟩) (suf := [⟨0, 12, 23, 15⟩]) rfl (List.forall_mem_cons.mpr ⟨⟨by decide, _, wL_cO, List.mem_of_getElem? (i := 1) rfl⟩, (fun _ h => absurd h List.not_mem_nil)⟩) rfl (by decide) wL_cA wL_kA rfl (fun q9 => ?_)
    refine go_astore (q := 21) (gDec iL_kernPair_ok 13 rfl) (by decide) rfl ?_
    refine go_iconst (v := 2) (q := 22) (gDec iL_kernPair_ok 14 rfl) (by decide) rfl ?_
    exact go_ireturn (gDec iL_kernPair_ok 15 rfl) rfl rfl (by rw [he, xc_OAS_A]) (gOo_x he) (by decide)
  · have hc : gCt κ mX10_kernPair 9 [.ref (κ.2.1 + 0), .int a1, .int a2, .int a3] σ xISE (fKernPair σ a1 a2 a3).2 1 := he ▸ ctX10_kernPair h.ci.dw h.cb.1
    refine ct_ofH (by decide +kernel) rfl (Nat.le_of_ble_eq_true rfl) rfl ?_
    refine go_aload (q := 2) (gDec iL_kernPair_ok 0 rfl) rfl rfl ?_
    refine go_iconst (v := 0) (q := 3) (gDec iL_kernPair_ok 1 rfl) (by decide) rfl ?_
    refine go_aload_n (q := 4) (gDec iL_kernPair_ok 2 rfl) rfl rfl rfl ?_
    refine go_iload_n (q := 5) (gDec iL_kernPair_ok 3 rfl) rfl rfl rfl ?_
    refine go_iload_n (q := 6) (gDec iL_kernPair_ok 4 rfl) rfl rfl rfl ?_
    refine go_iload_n (q := 7) (gDec iL_kernPair_ok 5 rfl) rfl rfl rfl ?_
    refine go_callV_c (n2 := 1) (t := 23) kL_70 hc (gDec iL_kernPair_ok 6 rfl) rfl rfl (by decide) rfl rfl rfl (Nat.le_of_ble_eq_true rfl) rfl (gFit_rm (by decide) (by decide)) (pre := [⟨0, 12, 15, 21⟩, ⟨0, 12, 19, 13⟩]) (x := ⟨0, 12, 23, 15⟩) (suf := []) rfl (List.forall_mem_cons.mpr ⟨⟨by decide, _, wL_cO, List.mem_of_getElem? (i := 2) rfl⟩, (List.forall_mem_cons.mpr ⟨⟨by decide, _, wL_cA, List.mem_of_getElem? (i := 0) rfl⟩, (fun _ h => absurd h List.not_mem_nil)⟩)⟩) rfl (by decide) wL_cS wL_kS rfl (fun q9 => ?_)
    refine go_astore (q := 25) (gDec iL_kernPair_ok 16 rfl) (by decide) rfl ?_
    refine go_iconst (v := 3) (q := 26) (gDec iL_kernPair_ok 17 rfl) (by decide) rfl ?_
    exact go_ireturn (gDec iL_kernPair_ok 18 rfl) rfl rfl (by rw [he, xc_OAS_S]) (gOo_x he) (by decide)

def iL_dropKern : List (Nat × Instr × Nat) := [(0, .aload 4, 2), (2, .iconst 0, 1), (3, .aload_n 0, 1), (4, .iload_n 1, 1), (5, .iload_n 2, 1), (6, .iload_n 3, 1), (7, .invokevirtual 73, 3), (10, .i2l, 1), (11, .lastore, 1), (12, .goto 7, 3), (15, .astore 5, 2), (17, .iconst 1, 1), (18, .ireturn, 1), (19, .iconst 0, 1), (20, .ireturn, 1)]
theorem iL_dropKern_ok : gDecs mL_dropKern iL_dropKern := by decide +kernel

theorem o_dropKern {σ : gST} {a1 a2 a3 : Int32} : (∃ v, (fDropKern σ a1 a2 a3).1 = rI v) ∨ (fDropKern σ a1 a2 a3).1 = xNSE := by
  unfold fDropKern
  repeat' split
  all_goals first | exact Or.inl ⟨_, rfl⟩ | exact Or.inr (rfl)
set_option maxHeartbeats 4000000 in
set_option maxRecDepth 100000 in
theorem ctL_dropKern {κ : gK} {σ : gST} {a1 a2 a3 : Int32} (h : gJ σ) : gCt κ mL_dropKern 10 [.ref (κ.2.1 + 0), .int a1, .int a2, .int a3, .ref (κ.2.1 + 390)] σ (rI (xC kN (fDropKern σ a1 a2 a3).1)) (gOo (fDropKern σ a1 a2 a3)) 1 := by
  rcases o_dropKern (σ := σ) (a1 := a1) (a2 := a2) (a3 := a3) with ⟨v, he⟩ | he
  · have hc : gCt κ mX10_dropKern 9 [.ref (κ.2.1 + 0), .int a1, .int a2, .int a3] σ (rI v) (fDropKern σ a1 a2 a3).2 1 := he ▸ ctX10_dropKern h.ci.dw h.cb.1
    refine ct_ofH (by decide +kernel) rfl (Nat.le_of_ble_eq_true rfl) rfl ?_
    refine go_aload (q := 2) (gDec iL_dropKern_ok 0 rfl) rfl rfl ?_
    refine go_iconst (v := 0) (q := 3) (gDec iL_dropKern_ok 1 rfl) (by decide) rfl ?_
    refine go_aload_n (q := 4) (gDec iL_dropKern_ok 2 rfl) rfl rfl rfl ?_
    refine go_iload_n (q := 5) (gDec iL_dropKern_ok 3 rfl) rfl rfl rfl ?_
    refine go_iload_n (q := 6) (gDec iL_dropKern_ok 4 rfl) rfl rfl rfl ?_
    refine go_iload_n (q := 7) (gDec iL_dropKern_ok 5 rfl) rfl rfl rfl ?_
    refine go_callV (n2 := 1) (q := 10) kL_73 hc (gDec iL_dropKern_ok 6 rfl) rfl rfl (by decide) rfl rfl rfl (Nat.le_of_ble_eq_true rfl) rfl (gFit_rm (by decide) (by decide)) rfl ?_
    refine go_i2l (q := 11) (gDec iL_dropKern_ok 7 rfl) rfl ?_
    refine go_last (q := 12) (gDec iL_dropKern_ok 8 rfl) vp_00 rfl ?_
    refine go_goto (t := 19) (gDec iL_dropKern_ok 9 rfl) (by decide) ?_
    refine go_iconst (v := 0) (q := 20) (gDec iL_dropKern_ok 13 rfl) (by decide) rfl ?_
    exact go_ireturn (gDec iL_dropKern_ok 14 rfl) rfl rfl (by rw [he, xc_i]) (gOo_i he) (by decide)
  · have hc : gCt κ mX10_dropKern 9 [.ref (κ.2.1 + 0), .int a1, .int a2, .int a3] σ xNSE (fDropKern σ a1 a2 a3).2 1 := he ▸ ctX10_dropKern h.ci.dw h.cb.1
    refine ct_ofH (by decide +kernel) rfl (Nat.le_of_ble_eq_true rfl) rfl ?_
    refine go_aload (q := 2) (gDec iL_dropKern_ok 0 rfl) rfl rfl ?_
    refine go_iconst (v := 0) (q := 3) (gDec iL_dropKern_ok 1 rfl) (by decide) rfl ?_
    refine go_aload_n (q := 4) (gDec iL_dropKern_ok 2 rfl) rfl rfl rfl ?_
    refine go_iload_n (q := 5) (gDec iL_dropKern_ok 3 rfl) rfl rfl rfl ?_
    refine go_iload_n (q := 6) (gDec iL_dropKern_ok 4 rfl) rfl rfl rfl ?_
    refine go_iload_n (q := 7) (gDec iL_dropKern_ok 5 rfl) rfl rfl rfl ?_
    refine go_callV_c (n2 := 1) (t := 15) kL_73 hc (gDec iL_dropKern_ok 6 rfl) rfl rfl (by decide) rfl rfl rfl (Nat.le_of_ble_eq_true rfl) rfl (gFit_rm (by decide) (by decide)) (pre := []) (x := ⟨0, 12, 15, 37⟩) (suf := []) rfl (fun _ h => absurd h List.not_mem_nil) rfl (by decide) wL_cN wL_kN rfl (fun q9 => ?_)
    refine go_astore (q := 17) (gDec iL_dropKern_ok 10 rfl) (by decide) rfl ?_
    refine go_iconst (v := 1) (q := 18) (gDec iL_dropKern_ok 11 rfl) (by decide) rfl ?_
    exact go_ireturn (gDec iL_dropKern_ok 12 rfl) rfl rfl (by rw [he, xc_N_N]) (gOo_x he) (by decide)

def iL_kern : List (Nat × Instr × Nat) := [(0, .aload_n 3, 1), (1, .iconst 0, 1), (2, .aload_n 0, 1), (3, .iload_n 1, 1), (4, .iload_n 2, 1), (5, .invokevirtual 77, 3), (8, .i2l, 1), (9, .lastore, 1), (10, .goto 7, 3), (13, .astore 4, 2), (15, .iconst 1, 1), (16, .ireturn, 1), (17, .iconst 0, 1), (18, .ireturn, 1)]
theorem iL_kern_ok : gDecs mL_kern iL_kern := by decide +kernel

theorem o_kern {σ : gST} {a1 a2 : Int32} : (∃ v, (fKern σ a1 a2).1 = rI v) ∨ (fKern σ a1 a2).1 = xIOB := by
  unfold fKern
  repeat' split
  all_goals first | exact Or.inl ⟨_, rfl⟩ | exact Or.inr (rfl)
set_option maxHeartbeats 4000000 in
set_option maxRecDepth 100000 in
theorem ctL_kern {κ : gK} {σ : gST} {a1 a2 : Int32} (h : gJ σ) : gCt κ mL_kern 10 [.ref (κ.2.1 + 0), .int a1, .int a2, .ref (κ.2.1 + 390)] σ (rI (xC kO (fKern σ a1 a2).1)) (gOo (fKern σ a1 a2)) 1 := by
  rcases o_kern (σ := σ) (a1 := a1) (a2 := a2) with ⟨v, he⟩ | he
  · have hc : gCt κ mX10_kern 9 [.ref (κ.2.1 + 0), .int a1, .int a2] σ (rI v) (fKern σ a1 a2).2 1 := he ▸ ctX10_kern h.ci.dw
    refine ct_ofH (by decide +kernel) rfl (Nat.le_of_ble_eq_true rfl) rfl ?_
    refine go_aload_n (q := 1) (gDec iL_kern_ok 0 rfl) rfl rfl rfl ?_
    refine go_iconst (v := 0) (q := 2) (gDec iL_kern_ok 1 rfl) (by decide) rfl ?_
    refine go_aload_n (q := 3) (gDec iL_kern_ok 2 rfl) rfl rfl rfl ?_
    refine go_iload_n (q := 4) (gDec iL_kern_ok 3 rfl) rfl rfl rfl ?_
    refine go_iload_n (q := 5) (gDec iL_kern_ok 4 rfl) rfl rfl rfl ?_
    refine go_callV (n2 := 1) (q := 8) kL_77 hc (gDec iL_kern_ok 5 rfl) rfl rfl (by decide) rfl rfl rfl (Nat.le_of_ble_eq_true rfl) rfl (gFit_rm (by decide) (by decide)) rfl ?_
    refine go_i2l (q := 9) (gDec iL_kern_ok 6 rfl) rfl ?_
    refine go_last (q := 10) (gDec iL_kern_ok 7 rfl) vp_00 rfl ?_
    refine go_goto (t := 17) (gDec iL_kern_ok 8 rfl) (by decide) ?_
    refine go_iconst (v := 0) (q := 18) (gDec iL_kern_ok 12 rfl) (by decide) rfl ?_
    exact go_ireturn (gDec iL_kern_ok 13 rfl) rfl rfl (by rw [he, xc_i]) (gOo_i he) (by decide)
  · have hc : gCt κ mX10_kern 9 [.ref (κ.2.1 + 0), .int a1, .int a2] σ xIOB (fKern σ a1 a2).2 1 := he ▸ ctX10_kern h.ci.dw
    refine ct_ofH (by decide +kernel) rfl (Nat.le_of_ble_eq_true rfl) rfl ?_
    refine go_aload_n (q := 1) (gDec iL_kern_ok 0 rfl) rfl rfl rfl ?_
    refine go_iconst (v := 0) (q := 2) (gDec iL_kern_ok 1 rfl) (by decide) rfl ?_
    refine go_aload_n (q := 3) (gDec iL_kern_ok 2 rfl) rfl rfl rfl ?_
    refine go_iload_n (q := 4) (gDec iL_kern_ok 3 rfl) rfl rfl rfl ?_
    refine go_iload_n (q := 5) (gDec iL_kern_ok 4 rfl) rfl rfl rfl ?_
    refine go_callV_c (n2 := 1) (t := 13) kL_77 hc (gDec iL_kern_ok 5 rfl) rfl rfl (by decide) rfl rfl rfl (Nat.le_of_ble_eq_true rfl) rfl (gFit_rm (by decide) (by decide)) (pre := []) (x := ⟨0, 10, 13, 21⟩) (suf := []) rfl (fun _ h => absurd h List.not_mem_nil) rfl (by decide) wL_cO wL_kO rfl (fun q9 => ?_)
    refine go_astore (q := 15) (gDec iL_kern_ok 9 rfl) (by decide) rfl ?_
    refine go_iconst (v := 1) (q := 16) (gDec iL_kern_ok 10 rfl) (by decide) rfl ?_
    exact go_ireturn (gDec iL_kern_ok 11 rfl) rfl rfl (by rw [he, xc_O_O]) (gOo_x he) (by decide)

def iL_why : List (Nat × Instr × Nat) := [(0, .aload_n 3, 1), (1, .iconst 0, 1), (2, .aload_n 0, 1), (3, .iload_n 1, 1), (4, .iload_n 2, 1), (5, .invokevirtual 80, 3), (8, .i2l, 1), (9, .lastore, 1), (10, .goto 7, 3), (13, .astore 4, 2), (15, .iconst 1, 1), (16, .ireturn, 1), (17, .iconst 0, 1), (18, .ireturn, 1)]
theorem iL_why_ok : gDecs mL_why iL_why := by decide +kernel

theorem o_why {σ : gST} {a1 a2 : Int32} : (∃ v, (fWhy σ a1 a2).1 = rI v) ∨ (fWhy σ a1 a2).1 = xIOB := by
  unfold fWhy
  repeat' split
  all_goals first | exact Or.inl ⟨_, rfl⟩ | exact Or.inr (rfl)
set_option maxHeartbeats 4000000 in
set_option maxRecDepth 100000 in
theorem ctL_why {κ : gK} {σ : gST} {a1 a2 : Int32} (h : gJ σ) : gCt κ mL_why 10 [.ref (κ.2.1 + 0), .int a1, .int a2, .ref (κ.2.1 + 390)] σ (rI (xC kO (fWhy σ a1 a2).1)) (gOo (fWhy σ a1 a2)) 1 := by
  rcases o_why (σ := σ) (a1 := a1) (a2 := a2) with ⟨v, he⟩ | he
  · have hc : gCt κ mX10_why 9 [.ref (κ.2.1 + 0), .int a1, .int a2] σ (rI v) (fWhy σ a1 a2).2 1 := he ▸ ctX10_why h.ci.dw
    refine ct_ofH (by decide +kernel) rfl (Nat.le_of_ble_eq_true rfl) rfl ?_
    refine go_aload_n (q := 1) (gDec iL_why_ok 0 rfl) rfl rfl rfl ?_
    refine go_iconst (v := 0) (q := 2) (gDec iL_why_ok 1 rfl) (by decide) rfl ?_
    refine go_aload_n (q := 3) (gDec iL_why_ok 2 rfl) rfl rfl rfl ?_
    refine go_iload_n (q := 4) (gDec iL_why_ok 3 rfl) rfl rfl rfl ?_
    refine go_iload_n (q := 5) (gDec iL_why_ok 4 rfl) rfl rfl rfl ?_
    refine go_callV (n2 := 1) (q := 8) kL_80 hc (gDec iL_why_ok 5 rfl) rfl rfl (by decide) rfl rfl rfl (Nat.le_of_ble_eq_true rfl) rfl (gFit_rm (by decide) (by decide)) rfl ?_
    refine go_i2l (q := 9) (gDec iL_why_ok 6 rfl) rfl ?_
    refine go_last (q := 10) (gDec iL_why_ok 7 rfl) vp_00 rfl ?_
    refine go_goto (t := 17) (gDec iL_why_ok 8 rfl) (by decide) ?_
    refine go_iconst (v := 0) (q := 18) (gDec iL_why_ok 12 rfl) (by decide) rfl ?_
    exact go_ireturn (gDec iL_why_ok 13 rfl) rfl rfl (by rw [he, xc_i]) (gOo_i he) (by decide)
  · have hc : gCt κ mX10_why 9 [.ref (κ.2.1 + 0), .int a1, .int a2] σ xIOB (fWhy σ a1 a2).2 1 := he ▸ ctX10_why h.ci.dw
    refine ct_ofH (by decide +kernel) rfl (Nat.le_of_ble_eq_true rfl) rfl ?_
    refine go_aload_n (q := 1) (gDec iL_why_ok 0 rfl) rfl rfl rfl ?_
    refine go_iconst (v := 0) (q := 2) (gDec iL_why_ok 1 rfl) (by decide) rfl ?_
    refine go_aload_n (q := 3) (gDec iL_why_ok 2 rfl) rfl rfl rfl ?_
    refine go_iload_n (q := 4) (gDec iL_why_ok 3 rfl) rfl rfl rfl ?_
    refine go_iload_n (q := 5) (gDec iL_why_ok 4 rfl) rfl rfl rfl ?_
    refine go_callV_c (n2 := 1) (t := 13) kL_80 hc (gDec iL_why_ok 5 rfl) rfl rfl (by decide) rfl rfl rfl (Nat.le_of_ble_eq_true rfl) rfl (gFit_rm (by decide) (by decide)) (pre := []) (x := ⟨0, 10, 13, 21⟩) (suf := []) rfl (fun _ h => absurd h List.not_mem_nil) rfl (by decide) wL_cO wL_kO rfl (fun q9 => ?_)
    refine go_astore (q := 15) (gDec iL_why_ok 9 rfl) (by decide) rfl ?_
    refine go_iconst (v := 1) (q := 16) (gDec iL_why_ok 10 rfl) (by decide) rfl ?_
    exact go_ireturn (gDec iL_why_ok 11 rfl) rfl rfl (by rw [he, xc_O_O]) (gOo_x he) (by decide)

def iL_addStem : List (Nat × Instr × Nat) := [(0, .aload 4, 2), (2, .iconst 0, 1), (3, .aload_n 0, 1), (4, .iload_n 1, 1), (5, .iload_n 2, 1), (6, .iload_n 3, 1), (7, .invokevirtual 83, 3), (10, .i2l, 1), (11, .lastore, 1), (12, .goto 15, 3), (15, .astore 5, 2), (17, .iconst 1, 1), (18, .ireturn, 1), (19, .astore 5, 2), (21, .iconst 2, 1), (22, .ireturn, 1), (23, .astore 5, 2), (25, .iconst 3, 1), (26, .ireturn, 1), (27, .iconst 0, 1), (28, .ireturn, 1)]
theorem iL_addStem_ok : gDecs mL_addStem iL_addStem := by decide +kernel

theorem o_addStem {σ : gST} {a1 a2 a3 : Int32} : (∃ v, (fAddStem σ a1 a2 a3).1 = rI v) ∨ (fAddStem σ a1 a2 a3).1 = xIOB ∨ (fAddStem σ a1 a2 a3).1 = xIAE ∨ (fAddStem σ a1 a2 a3).1 = xISE := by
  unfold fAddStem
  repeat' split
  all_goals first | exact Or.inl ⟨_, rfl⟩ | exact Or.inr (Or.inl rfl) | exact Or.inr (Or.inr (Or.inl rfl)) | exact Or.inr (Or.inr (Or.inr (rfl)))
set_option maxHeartbeats 4000000 in
set_option maxRecDepth 100000 in
theorem ctL_addStem {κ : gK} {σ : gST} {a1 a2 a3 : Int32} (h : gJ σ) : gCt κ mL_addStem 10 [.ref (κ.2.1 + 0), .int a1, .int a2, .int a3, .ref (κ.2.1 + 390)] σ (rI (xC kOAS (fAddStem σ a1 a2 a3).1)) (gOo (fAddStem σ a1 a2 a3)) 1 := by
  rcases o_addStem (σ := σ) (a1 := a1) (a2 := a2) (a3 := a3) with ⟨v, he⟩ | he | he | he
  · have hc : gCt κ mX10_addStem 9 [.ref (κ.2.1 + 0), .int a1, .int a2, .int a3] σ (rI v) (fAddStem σ a1 a2 a3).2 1 := he ▸ ctX10_addStem h.ci.dw h.cb.1
    refine ct_ofH (by decide +kernel) rfl (Nat.le_of_ble_eq_true rfl) rfl ?_
    refine go_aload (q := 2) (gDec iL_addStem_ok 0 rfl) rfl rfl ?_
    refine go_iconst (v := 0) (q := 3) (gDec iL_addStem_ok 1 rfl) (by decide) rfl ?_
    refine go_aload_n (q := 4) (gDec iL_addStem_ok 2 rfl) rfl rfl rfl ?_
    refine go_iload_n (q := 5) (gDec iL_addStem_ok 3 rfl) rfl rfl rfl ?_
    refine go_iload_n (q := 6) (gDec iL_addStem_ok 4 rfl) rfl rfl rfl ?_
    refine go_iload_n (q := 7) (gDec iL_addStem_ok 5 rfl) rfl rfl rfl ?_
    refine go_callV (n2 := 1) (q := 10) kL_83 hc (gDec iL_addStem_ok 6 rfl) rfl rfl (by decide) rfl rfl rfl (Nat.le_of_ble_eq_true rfl) rfl (gFit_rm (by decide) (by decide)) rfl ?_
    refine go_i2l (q := 11) (gDec iL_addStem_ok 7 rfl) rfl ?_
    refine go_last (q := 12) (gDec iL_addStem_ok 8 rfl) vp_00 rfl ?_
    refine go_goto (t := 27) (gDec iL_addStem_ok 9 rfl) (by decide) ?_
    refine go_iconst (v := 0) (q := 28) (gDec iL_addStem_ok 19 rfl) (by decide) rfl ?_
    exact go_ireturn (gDec iL_addStem_ok 20 rfl) rfl rfl (by rw [he, xc_i]) (gOo_i he) (by decide)
  · have hc : gCt κ mX10_addStem 9 [.ref (κ.2.1 + 0), .int a1, .int a2, .int a3] σ xIOB (fAddStem σ a1 a2 a3).2 1 := he ▸ ctX10_addStem h.ci.dw h.cb.1
    refine ct_ofH (by decide +kernel) rfl (Nat.le_of_ble_eq_true rfl) rfl ?_
    refine go_aload (q := 2) (gDec iL_addStem_ok 0 rfl) rfl rfl ?_
    refine go_iconst (v := 0) (q := 3) (gDec iL_addStem_ok 1 rfl) (by decide) rfl ?_
    refine go_aload_n (q := 4) (gDec iL_addStem_ok 2 rfl) rfl rfl rfl ?_
    refine go_iload_n (q := 5) (gDec iL_addStem_ok 3 rfl) rfl rfl rfl ?_
    refine go_iload_n (q := 6) (gDec iL_addStem_ok 4 rfl) rfl rfl rfl ?_
    refine go_iload_n (q := 7) (gDec iL_addStem_ok 5 rfl) rfl rfl rfl ?_
    refine go_callV_c (n2 := 1) (t := 15) kL_83 hc (gDec iL_addStem_ok 6 rfl) rfl rfl (by decide) rfl rfl rfl (Nat.le_of_ble_eq_true rfl) rfl (gFit_rm (by decide) (by decide)) (pre := []) (x := ⟨0, 12, 15, 21⟩) (suf := [⟨0, 12, 19, 13⟩, ⟨0, 12, 23, 15⟩]) rfl (fun _ h => absurd h List.not_mem_nil) rfl (by decide) wL_cO wL_kO rfl (fun q9 => ?_)
    refine go_astore (q := 17) (gDec iL_addStem_ok 10 rfl) (by decide) rfl ?_
    refine go_iconst (v := 1) (q := 18) (gDec iL_addStem_ok 11 rfl) (by decide) rfl ?_
    exact go_ireturn (gDec iL_addStem_ok 12 rfl) rfl rfl (by rw [he, xc_OAS_O]) (gOo_x he) (by decide)
  · have hc : gCt κ mX10_addStem 9 [.ref (κ.2.1 + 0), .int a1, .int a2, .int a3] σ xIAE (fAddStem σ a1 a2 a3).2 1 := he ▸ ctX10_addStem h.ci.dw h.cb.1
    refine ct_ofH (by decide +kernel) rfl (Nat.le_of_ble_eq_true rfl) rfl ?_
    refine go_aload (q := 2) (gDec iL_addStem_ok 0 rfl) rfl rfl ?_
    refine go_iconst (v := 0) (q := 3) (gDec iL_addStem_ok 1 rfl) (by decide) rfl ?_
    refine go_aload_n (q := 4) (gDec iL_addStem_ok 2 rfl) rfl rfl rfl ?_
    refine go_iload_n (q := 5) (gDec iL_addStem_ok 3 rfl) rfl rfl rfl ?_
    refine go_iload_n (q := 6) (gDec iL_addStem_ok 4 rfl) rfl rfl rfl ?_
    refine go_iload_n (q := 7) (gDec iL_addStem_ok 5 rfl) rfl rfl rfl ?_
    refine go_callV_c (n2 := 1) (t := 19) kL_83 hc (gDec iL_addStem_ok 6 rfl) rfl rfl (by decide) rfl rfl rfl (Nat.le_of_ble_eq_true rfl) rfl (gFit_rm (by decide) (by decide)) (pre := [⟨0, 12, 15, 21⟩]) (x := ⟨0, 12, 19, 13⟩) (suf := [⟨0, 12, 23, 15⟩]) rfl (List.forall_mem_cons.mpr ⟨⟨by decide, _, wL_cO, List.mem_of_getElem? (i := 1) rfl⟩, (fun _ h => absurd h List.not_mem_nil)⟩) rfl (by decide) wL_cA wL_kA rfl (fun q9 => ?_)
    refine go_astore (q := 21) (gDec iL_addStem_ok 13 rfl) (by decide) rfl ?_
    refine go_iconst (v := 2) (q := 22) (gDec iL_addStem_ok 14 rfl) (by decide) rfl ?_
    exact go_ireturn (gDec iL_addStem_ok 15 rfl) rfl rfl (by rw [he, xc_OAS_A]) (gOo_x he) (by decide)
  · have hc : gCt κ mX10_addStem 9 [.ref (κ.2.1 + 0), .int a1, .int a2, .int a3] σ xISE (fAddStem σ a1 a2 a3).2 1 := he ▸ ctX10_addStem h.ci.dw h.cb.1
    refine ct_ofH (by decide +kernel) rfl (Nat.le_of_ble_eq_true rfl) rfl ?_
    refine go_aload (q := 2) (gDec iL_addStem_ok 0 rfl) rfl rfl ?_
    refine go_iconst (v := 0) (q := 3) (gDec iL_addStem_ok 1 rfl) (by decide) rfl ?_
    refine go_aload_n (q := 4) (gDec iL_addStem_ok 2 rfl) rfl rfl rfl ?_
    refine go_iload_n (q := 5) (gDec iL_addStem_ok 3 rfl) rfl rfl rfl ?_
    refine go_iload_n (q := 6) (gDec iL_addStem_ok 4 rfl) rfl rfl rfl ?_
    refine go_iload_n (q := 7) (gDec iL_addStem_ok 5 rfl) rfl rfl rfl ?_
    refine go_callV_c (n2 := 1) (t := 23) kL_83 hc (gDec iL_addStem_ok 6 rfl) rfl rfl (by decide) rfl rfl rfl (Nat.le_of_ble_eq_true rfl) rfl (gFit_rm (by decide) (by decide)) (pre := [⟨0, 12, 15, 21⟩, ⟨0, 12, 19, 13⟩]) (x := ⟨0, 12, 23, 15⟩) (suf := []) rfl (List.forall_mem_cons.mpr ⟨⟨by decide, _, wL_cO, List.mem_of_getElem? (i := 2) rfl⟩, (List.forall_mem_cons.mpr ⟨⟨by decide, _, wL_cA, List.mem_of_getElem? (i := 0) rfl⟩, (fun _ h => absurd h List.not_mem_nil)⟩)⟩) rfl (by decide) wL_cS wL_kS rfl (fun q9 => ?_)
    refine go_astore (q := 25) (gDec iL_addStem_ok 16 rfl) (by decide) rfl ?_
    refine go_iconst (v := 3) (q := 26) (gDec iL_addStem_ok 17 rfl) (by decide) rfl ?_
    exact go_ireturn (gDec iL_addStem_ok 18 rfl) rfl rfl (by rw [he, xc_OAS_S]) (gOo_x he) (by decide)

def iL_removeStem : List (Nat × Instr × Nat) := [(0, .aload_n 3, 1), (1, .iconst 0, 1), (2, .aload_n 0, 1), (3, .iload_n 1, 1), (4, .iload_n 2, 1), (5, .invokevirtual 86, 3), (8, .i2l, 1), (9, .lastore, 1), (10, .goto 7, 3), (13, .astore 4, 2), (15, .iconst 1, 1), (16, .ireturn, 1), (17, .iconst 0, 1), (18, .ireturn, 1)]
theorem iL_removeStem_ok : gDecs mL_removeStem iL_removeStem := by decide +kernel

theorem o_removeStem {σ : gST} {a1 a2 : Int32} : (∃ v, (fRemoveStem σ a1 a2).1 = rI v) ∨ (fRemoveStem σ a1 a2).1 = xIOB := by
  unfold fRemoveStem
  repeat' split
  all_goals first | exact Or.inl ⟨_, rfl⟩ | exact Or.inr (rfl)
set_option maxHeartbeats 4000000 in
set_option maxRecDepth 100000 in
theorem ctL_removeStem {κ : gK} {σ : gST} {a1 a2 : Int32} (h : gJ σ) : gCt κ mL_removeStem 10 [.ref (κ.2.1 + 0), .int a1, .int a2, .ref (κ.2.1 + 390)] σ (rI (xC kO (fRemoveStem σ a1 a2).1)) (gOo (fRemoveStem σ a1 a2)) 1 := by
  rcases o_removeStem (σ := σ) (a1 := a1) (a2 := a2) with ⟨v, he⟩ | he
  · have hc : gCt κ mX10_removeStem 9 [.ref (κ.2.1 + 0), .int a1, .int a2] σ (rI v) (fRemoveStem σ a1 a2).2 1 := he ▸ ctX10_removeStem h.ci.dw h.cb.1
    refine ct_ofH (by decide +kernel) rfl (Nat.le_of_ble_eq_true rfl) rfl ?_
    refine go_aload_n (q := 1) (gDec iL_removeStem_ok 0 rfl) rfl rfl rfl ?_
    refine go_iconst (v := 0) (q := 2) (gDec iL_removeStem_ok 1 rfl) (by decide) rfl ?_
    refine go_aload_n (q := 3) (gDec iL_removeStem_ok 2 rfl) rfl rfl rfl ?_
    refine go_iload_n (q := 4) (gDec iL_removeStem_ok 3 rfl) rfl rfl rfl ?_
    refine go_iload_n (q := 5) (gDec iL_removeStem_ok 4 rfl) rfl rfl rfl ?_
    refine go_callV (n2 := 1) (q := 8) kL_86 hc (gDec iL_removeStem_ok 5 rfl) rfl rfl (by decide) rfl rfl rfl (Nat.le_of_ble_eq_true rfl) rfl (gFit_rm (by decide) (by decide)) rfl ?_
    refine go_i2l (q := 9) (gDec iL_removeStem_ok 6 rfl) rfl ?_
    refine go_last (q := 10) (gDec iL_removeStem_ok 7 rfl) vp_00 rfl ?_
    refine go_goto (t := 17) (gDec iL_removeStem_ok 8 rfl) (by decide) ?_
    refine go_iconst (v := 0) (q := 18) (gDec iL_removeStem_ok 12 rfl) (by decide) rfl ?_
    exact go_ireturn (gDec iL_removeStem_ok 13 rfl) rfl rfl (by rw [he, xc_i]) (gOo_i he) (by decide)
  · have hc : gCt κ mX10_removeStem 9 [.ref (κ.2.1 + 0), .int a1, .int a2] σ xIOB (fRemoveStem σ a1 a2).2 1 := he ▸ ctX10_removeStem h.ci.dw h.cb.1
    refine ct_ofH (by decide +kernel) rfl (Nat.le_of_ble_eq_true rfl) rfl ?_
    refine go_aload_n (q := 1) (gDec iL_removeStem_ok 0 rfl) rfl rfl rfl ?_
    refine go_iconst (v := 0) (q := 2) (gDec iL_removeStem_ok 1 rfl) (by decide) rfl ?_
    refine go_aload_n (q := 3) (gDec iL_removeStem_ok 2 rfl) rfl rfl rfl ?_
    refine go_iload_n (q := 4) (gDec iL_removeStem_ok 3 rfl) rfl rfl rfl ?_
    refine go_iload_n (q := 5) (gDec iL_removeStem_ok 4 rfl) rfl rfl rfl ?_
    refine go_callV_c (n2 := 1) (t := 13) kL_86 hc (gDec iL_removeStem_ok 5 rfl) rfl rfl (by decide) rfl rfl rfl (Nat.le_of_ble_eq_true rfl) rfl (gFit_rm (by decide) (by decide)) (pre := []) (x := ⟨0, 10, 13, 21⟩) (suf := []) rfl (fun _ h => absurd h List.not_mem_nil) rfl (by decide) wL_cO wL_kO rfl (fun q9 => ?_)
    refine go_astore (q := 15) (gDec iL_removeStem_ok 9 rfl) (by decide) rfl ?_
    refine go_iconst (v := 1) (q := 16) (gDec iL_removeStem_ok 10 rfl) (by decide) rfl ?_
    exact go_ireturn (gDec iL_removeStem_ok 11 rfl) rfl rfl (by rw [he, xc_O_O]) (gOo_x he) (by decide)

def iL_stem : List (Nat × Instr × Nat) := [(0, .aload 4, 2), (2, .iconst 0, 1), (3, .aload_n 0, 1), (4, .iload_n 1, 1), (5, .iload_n 2, 1), (6, .iload_n 3, 1), (7, .invokevirtual 89, 3), (10, .i2l, 1), (11, .lastore, 1), (12, .goto 7, 3), (15, .astore 5, 2), (17, .iconst 1, 1), (18, .ireturn, 1), (19, .iconst 0, 1), (20, .ireturn, 1)]
theorem iL_stem_ok : gDecs mL_stem iL_stem := by decide +kernel

theorem o_stem {σ : gST} {a1 a2 a3 : Int32} : (∃ v, (fStem σ a1 a2 a3).1 = rI v) ∨ (fStem σ a1 a2 a3).1 = xIOB := by
  unfold fStem
  repeat' split
  all_goals first | exact Or.inl ⟨_, rfl⟩ | exact Or.inr (rfl)
set_option maxHeartbeats 4000000 in
set_option maxRecDepth 100000 in
theorem ctL_stem {κ : gK} {σ : gST} {a1 a2 a3 : Int32} (h : gJ σ) : gCt κ mL_stem 10 [.ref (κ.2.1 + 0), .int a1, .int a2, .int a3, .ref (κ.2.1 + 390)] σ (rI (xC kO (fStem σ a1 a2 a3).1)) (gOo (fStem σ a1 a2 a3)) 1 := by
  rcases o_stem (σ := σ) (a1 := a1) (a2 := a2) (a3 := a3) with ⟨v, he⟩ | he
  · have hc : gCt κ mX10_stem 9 [.ref (κ.2.1 + 0), .int a1, .int a2, .int a3] σ (rI v) (fStem σ a1 a2 a3).2 1 := he ▸ ctX10_stem h.ci.dw
    refine ct_ofH (by decide +kernel) rfl (Nat.le_of_ble_eq_true rfl) rfl ?_
    refine go_aload (q := 2) (gDec iL_stem_ok 0 rfl) rfl rfl ?_
    refine go_iconst (v := 0) (q := 3) (gDec iL_stem_ok 1 rfl) (by decide) rfl ?_
    refine go_aload_n (q := 4) (gDec iL_stem_ok 2 rfl) rfl rfl rfl ?_
    refine go_iload_n (q := 5) (gDec iL_stem_ok 3 rfl) rfl rfl rfl ?_
    refine go_iload_n (q := 6) (gDec iL_stem_ok 4 rfl) rfl rfl rfl ?_
    refine go_iload_n (q := 7) (gDec iL_stem_ok 5 rfl) rfl rfl rfl ?_
    refine go_callV (n2 := 1) (q := 10) kL_89 hc (gDec iL_stem_ok 6 rfl) rfl rfl (by decide) rfl rfl rfl (Nat.le_of_ble_eq_true rfl) rfl (gFit_rm (by decide) (by decide)) rfl ?_
    refine go_i2l (q := 11) (gDec iL_stem_ok 7 rfl) rfl ?_
    refine go_last (q := 12) (gDec iL_stem_ok 8 rfl) vp_00 rfl ?_
    refine go_goto (t := 19) (gDec iL_stem_ok 9 rfl) (by decide) ?_
    refine go_iconst (v := 0) (q := 20) (gDec iL_stem_ok 13 rfl) (by decide) rfl ?_
    exact go_ireturn (gDec iL_stem_ok 14 rfl) rfl rfl (by rw [he, xc_i]) (gOo_i he) (by decide)
  · have hc : gCt κ mX10_stem 9 [.ref (κ.2.1 + 0), .int a1, .int a2, .int a3] σ xIOB (fStem σ a1 a2 a3).2 1 := he ▸ ctX10_stem h.ci.dw
    refine ct_ofH (by decide +kernel) rfl (Nat.le_of_ble_eq_true rfl) rfl ?_
    refine go_aload (q := 2) (gDec iL_stem_ok 0 rfl) rfl rfl ?_
    refine go_iconst (v := 0) (q := 3) (gDec iL_stem_ok 1 rfl) (by decide) rfl ?_
    refine go_aload_n (q := 4) (gDec iL_stem_ok 2 rfl) rfl rfl rfl ?_
    refine go_iload_n (q := 5) (gDec iL_stem_ok 3 rfl) rfl rfl rfl ?_
    refine go_iload_n (q := 6) (gDec iL_stem_ok 4 rfl) rfl rfl rfl ?_
    refine go_iload_n (q := 7) (gDec iL_stem_ok 5 rfl) rfl rfl rfl ?_
    refine go_callV_c (n2 := 1) (t := 15) kL_89 hc (gDec iL_stem_ok 6 rfl) rfl rfl (by decide) rfl rfl rfl (Nat.le_of_ble_eq_true rfl) rfl (gFit_rm (by decide) (by decide)) (pre := []) (x := ⟨0, 12, 15, 21⟩) (suf := []) rfl (fun _ h => absurd h List.not_mem_nil) rfl (by decide) wL_cO wL_kO rfl (fun q9 => ?_)
    refine go_astore (q := 17) (gDec iL_stem_ok 10 rfl) (by decide) rfl ?_
    refine go_iconst (v := 1) (q := 18) (gDec iL_stem_ok 11 rfl) (by decide) rfl ?_
    exact go_ireturn (gDec iL_stem_ok 12 rfl) rfl rfl (by rw [he, xc_O_O]) (gOo_x he) (by decide)

def iL_place : List (Nat × Instr × Nat) := [(0, .aload 4, 2), (2, .iconst 0, 1), (3, .aload_n 0, 1), (4, .iload_n 1, 1), (5, .iload_n 2, 1), (6, .iload_n 3, 1), (7, .invokevirtual 93, 3), (10, .i2l, 1), (11, .lastore, 1), (12, .goto 11, 3), (15, .astore 5, 2), (17, .iconst 1, 1), (18, .ireturn, 1), (19, .astore 5, 2), (21, .iconst 2, 1), (22, .ireturn, 1), (23, .iconst 0, 1), (24, .ireturn, 1)]
theorem iL_place_ok : gDecs mL_place iL_place := by decide +kernel

theorem o_place {σ : gST} {a1 a2 a3 : Int32} : (∃ v, (fPlace σ a1 a2 a3).1 = rI v) ∨ (fPlace σ a1 a2 a3).1 = xIOB ∨ (fPlace σ a1 a2 a3).1 = xIAE := by
  unfold fPlace
  repeat' split
  all_goals first | exact Or.inl ⟨_, rfl⟩ | exact Or.inr (Or.inl rfl) | exact Or.inr (Or.inr (rfl))
set_option maxHeartbeats 4000000 in
set_option maxRecDepth 100000 in
theorem ctL_place {κ : gK} {σ : gST} {a1 a2 a3 : Int32} (h : gJ σ) : gCt κ mL_place 10 [.ref (κ.2.1 + 0), .int a1, .int a2, .int a3, .ref (κ.2.1 + 390)] σ (rI (xC kOA (fPlace σ a1 a2 a3).1)) (gOo (fPlace σ a1 a2 a3)) 1 := by
  rcases o_place (σ := σ) (a1 := a1) (a2 := a2) (a3 := a3) with ⟨v, he⟩ | he | he
  · have hc : gCt κ mX10_place 9 [.ref (κ.2.1 + 0), .int a1, .int a2, .int a3] σ (rI v) (fPlace σ a1 a2 a3).2 1 := he ▸ ctX10_place h.ci.dw
    refine ct_ofH (by decide +kernel) rfl (Nat.le_of_ble_eq_true rfl) rfl ?_
    refine go_aload (q := 2) (gDec iL_place_ok 0 rfl) rfl rfl ?_
    refine go_iconst (v := 0) (q := 3) (gDec iL_place_ok 1 rfl) (by decide) rfl ?_
    refine go_aload_n (q := 4) (gDec iL_place_ok 2 rfl) rfl rfl rfl ?_
    refine go_iload_n (q := 5) (gDec iL_place_ok 3 rfl) rfl rfl rfl ?_
    refine go_iload_n (q := 6) (gDec iL_place_ok 4 rfl) rfl rfl rfl ?_
    refine go_iload_n (q := 7) (gDec iL_place_ok 5 rfl) rfl rfl rfl ?_
    refine go_callV (n2 := 1) (q := 10) kL_93 hc (gDec iL_place_ok 6 rfl) rfl rfl (by decide) rfl rfl rfl (Nat.le_of_ble_eq_true rfl) rfl (gFit_rm (by decide) (by decide)) rfl ?_
    refine go_i2l (q := 11) (gDec iL_place_ok 7 rfl) rfl ?_
    refine go_last (q := 12) (gDec iL_place_ok 8 rfl) vp_00 rfl ?_
    refine go_goto (t := 23) (gDec iL_place_ok 9 rfl) (by decide) ?_
    refine go_iconst (v := 0) (q := 24) (gDec iL_place_ok 16 rfl) (by decide) rfl ?_
    exact go_ireturn (gDec iL_place_ok 17 rfl) rfl rfl (by rw [he, xc_i]) (gOo_i he) (by decide)
  · have hc : gCt κ mX10_place 9 [.ref (κ.2.1 + 0), .int a1, .int a2, .int a3] σ xIOB (fPlace σ a1 a2 a3).2 1 := he ▸ ctX10_place h.ci.dw
    refine ct_ofH (by decide +kernel) rfl (Nat.le_of_ble_eq_true rfl) rfl ?_
    refine go_aload (q := 2) (gDec iL_place_ok 0 rfl) rfl rfl ?_
    refine go_iconst (v := 0) (q := 3) (gDec iL_place_ok 1 rfl) (by decide) rfl ?_
    refine go_aload_n (q := 4) (gDec iL_place_ok 2 rfl) rfl rfl rfl ?_
    refine go_iload_n (q := 5) (gDec iL_place_ok 3 rfl) rfl rfl rfl ?_
    refine go_iload_n (q := 6) (gDec iL_place_ok 4 rfl) rfl rfl rfl ?_
    refine go_iload_n (q := 7) (gDec iL_place_ok 5 rfl) rfl rfl rfl ?_
    refine go_callV_c (n2 := 1) (t := 15) kL_93 hc (gDec iL_place_ok 6 rfl) rfl rfl (by decide) rfl rfl rfl (Nat.le_of_ble_eq_true rfl) rfl (gFit_rm (by decide) (by decide)) (pre := []) (x := ⟨0, 12, 15, 21⟩) (suf := [⟨0, 12, 19, 13⟩]) rfl (fun _ h => absurd h List.not_mem_nil) rfl (by decide) wL_cO wL_kO rfl (fun q9 => ?_)
    refine go_astore (q := 17) (gDec iL_place_ok 10 rfl) (by decide) rfl ?_
    refine go_iconst (v := 1) (q := 18) (gDec iL_place_ok 11 rfl) (by decide) rfl ?_
    exact go_ireturn (gDec iL_place_ok 12 rfl) rfl rfl (by rw [he, xc_OA_O]) (gOo_x he) (by decide)
  · have hc : gCt κ mX10_place 9 [.ref (κ.2.1 + 0), .int a1, .int a2, .int a3] σ xIAE (fPlace σ a1 a2 a3).2 1 := he ▸ ctX10_place h.ci.dw
    refine ct_ofH (by decide +kernel) rfl (Nat.le_of_ble_eq_true rfl) rfl ?_
    refine go_aload (q := 2) (gDec iL_place_ok 0 rfl) rfl rfl ?_
    refine go_iconst (v := 0) (q := 3) (gDec iL_place_ok 1 rfl) (by decide) rfl ?_
    refine go_aload_n (q := 4) (gDec iL_place_ok 2 rfl) rfl rfl rfl ?_
    refine go_iload_n (q := 5) (gDec iL_place_ok 3 rfl) rfl rfl rfl ?_
    refine go_iload_n (q := 6) (gDec iL_place_ok 4 rfl) rfl rfl rfl ?_
    refine go_iload_n (q := 7) (gDec iL_place_ok 5 rfl) rfl rfl rfl ?_
    refine go_callV_c (n2 := 1) (t := 19) kL_93 hc (gDec iL_place_ok 6 rfl) rfl rfl (by decide) rfl rfl rfl (Nat.le_of_ble_eq_true rfl) rfl (gFit_rm (by decide) (by decide)) (pre := [⟨0, 12, 15, 21⟩]) (x := ⟨0, 12, 19, 13⟩) (suf := []) rfl (List.forall_mem_cons.mpr ⟨⟨by decide, _, wL_cO, List.mem_of_getElem? (i := 1) rfl⟩, (fun _ h => absurd h List.not_mem_nil)⟩) rfl (by decide) wL_cA wL_kA rfl (fun q9 => ?_)
    refine go_astore (q := 21) (gDec iL_place_ok 13 rfl) (by decide) rfl ?_
    refine go_iconst (v := 2) (q := 22) (gDec iL_place_ok 14 rfl) (by decide) rfl ?_
    exact go_ireturn (gDec iL_place_ok 15 rfl) rfl rfl (by rw [he, xc_OA_A]) (gOo_x he) (by decide)

def iL_isBlack : List (Nat × Instr × Nat) := [(0, .aload 5, 2), (2, .iconst 0, 1), (3, .aload_n 0, 1), (4, .iload_n 1, 1), (5, .iload_n 2, 1), (6, .iload_n 3, 1), (7, .iload 4, 2), (9, .invokevirtual 96, 3), (12, .ifCond .eq 7, 3), (15, .lconst 1, 1), (16, .goto 4, 3), (19, .lconst 0, 1), (20, .lastore, 1), (21, .goto 11, 3), (24, .astore 6, 2), (26, .iconst 1, 1), (27, .ireturn, 1), (28, .astore 6, 2), (30, .iconst 2, 1), (31, .ireturn, 1), (32, .iconst 0, 1), (33, .ireturn, 1)]
theorem iL_isBlack_ok : gDecs mL_isBlack iL_isBlack := by decide +kernel

theorem o_isBlack {σ : gST} {a1 a2 a3 a4 : Int32} : ((fIsBlack σ a1 a2 a3 a4).1 = rI 0 ∨ (fIsBlack σ a1 a2 a3 a4).1 = rI 1) ∨ (fIsBlack σ a1 a2 a3 a4).1 = xIOB ∨ (fIsBlack σ a1 a2 a3 a4).1 = xIAE := by
  unfold fIsBlack
  repeat' split
  all_goals first | exact Or.inl (Or.inl rfl) | exact Or.inl (Or.inr rfl) | exact Or.inr (Or.inl rfl) | exact Or.inr (Or.inr (rfl))
set_option maxHeartbeats 4000000 in
set_option maxRecDepth 100000 in
theorem ctL_isBlack {κ : gK} {σ : gST} {a1 a2 a3 a4 : Int32} (h : gJ σ) : gCt κ mL_isBlack 10 [.ref (κ.2.1 + 0), .int a1, .int a2, .int a3, .int a4, .ref (κ.2.1 + 390)] σ (rI (xC kOA (fIsBlack σ a1 a2 a3 a4).1)) (gOo (fIsBlack σ a1 a2 a3 a4)) 1 := by
  rcases o_isBlack (σ := σ) (a1 := a1) (a2 := a2) (a3 := a3) (a4 := a4) with (he | he) | he | he
  · have hc : gCt κ mX10_isBlack 9 [.ref (κ.2.1 + 0), .int a1, .int a2, .int a3, .int a4] σ (rI 0) (fIsBlack σ a1 a2 a3 a4).2 1 := he ▸ ctX10_isBlack h.ci.dw
    refine ct_ofH (by decide +kernel) rfl (Nat.le_of_ble_eq_true rfl) rfl ?_
    refine go_aload (q := 2) (gDec iL_isBlack_ok 0 rfl) rfl rfl ?_
    refine go_iconst (v := 0) (q := 3) (gDec iL_isBlack_ok 1 rfl) (by decide) rfl ?_
    refine go_aload_n (q := 4) (gDec iL_isBlack_ok 2 rfl) rfl rfl rfl ?_
    refine go_iload_n (q := 5) (gDec iL_isBlack_ok 3 rfl) rfl rfl rfl ?_
    refine go_iload_n (q := 6) (gDec iL_isBlack_ok 4 rfl) rfl rfl rfl ?_
    refine go_iload_n (q := 7) (gDec iL_isBlack_ok 5 rfl) rfl rfl rfl ?_
    refine go_iload (q := 9) (gDec iL_isBlack_ok 6 rfl) rfl rfl ?_
    refine go_callV (n2 := 1) (q := 12) kL_96 hc (gDec iL_isBlack_ok 7 rfl) rfl rfl (by decide) rfl rfl rfl (Nat.le_of_ble_eq_true rfl) rfl (gFit_rm (by decide) (by decide)) rfl ?_
    refine go_if_eq (t := 19) (q := 15) (gDec iL_isBlack_ok 8 rfl) (by decide) rfl (fun c12 => ?_) (fun c12 => False.elim (c12 rfl))
    refine go_lconst (v := 0) (q := 20) (gDec iL_isBlack_ok 11 rfl) (by decide) rfl ?_
    refine go_last (q := 21) (gDec iL_isBlack_ok 12 rfl) vp_00 rfl ?_
    refine go_goto (t := 32) (gDec iL_isBlack_ok 13 rfl) (by decide) ?_
    refine go_iconst (v := 0) (q := 33) (gDec iL_isBlack_ok 20 rfl) (by decide) rfl ?_
    exact go_ireturn (gDec iL_isBlack_ok 21 rfl) rfl rfl (by rw [he, xc_i]) (gOo_i he) (by decide)
  · have hc : gCt κ mX10_isBlack 9 [.ref (κ.2.1 + 0), .int a1, .int a2, .int a3, .int a4] σ (rI 1) (fIsBlack σ a1 a2 a3 a4).2 1 := he ▸ ctX10_isBlack h.ci.dw
    refine ct_ofH (by decide +kernel) rfl (Nat.le_of_ble_eq_true rfl) rfl ?_
    refine go_aload (q := 2) (gDec iL_isBlack_ok 0 rfl) rfl rfl ?_
    refine go_iconst (v := 0) (q := 3) (gDec iL_isBlack_ok 1 rfl) (by decide) rfl ?_
    refine go_aload_n (q := 4) (gDec iL_isBlack_ok 2 rfl) rfl rfl rfl ?_
    refine go_iload_n (q := 5) (gDec iL_isBlack_ok 3 rfl) rfl rfl rfl ?_
    refine go_iload_n (q := 6) (gDec iL_isBlack_ok 4 rfl) rfl rfl rfl ?_
    refine go_iload_n (q := 7) (gDec iL_isBlack_ok 5 rfl) rfl rfl rfl ?_
    refine go_iload (q := 9) (gDec iL_isBlack_ok 6 rfl) rfl rfl ?_
    refine go_callV (n2 := 1) (q := 12) kL_96 hc (gDec iL_isBlack_ok 7 rfl) rfl rfl (by decide) rfl rfl rfl (Nat.le_of_ble_eq_true rfl) rfl (gFit_rm (by decide) (by decide)) rfl ?_
    refine go_if_eq (t := 19) (q := 15) (gDec iL_isBlack_ok 8 rfl) (by decide) rfl (fun c12 => False.elim (absurd c12 (by decide))) (fun c12 => ?_)
    refine go_lconst (v := 1) (q := 16) (gDec iL_isBlack_ok 9 rfl) (by decide) rfl ?_
    refine go_goto (t := 20) (gDec iL_isBlack_ok 10 rfl) (by decide) ?_
    refine go_last (q := 21) (gDec iL_isBlack_ok 12 rfl) vp_00 rfl ?_
    refine go_goto (t := 32) (gDec iL_isBlack_ok 13 rfl) (by decide) ?_
    refine go_iconst (v := 0) (q := 33) (gDec iL_isBlack_ok 20 rfl) (by decide) rfl ?_
    exact go_ireturn (gDec iL_isBlack_ok 21 rfl) rfl rfl (by rw [he, xc_i]) (gOo_i he) (by decide)
  · have hc : gCt κ mX10_isBlack 9 [.ref (κ.2.1 + 0), .int a1, .int a2, .int a3, .int a4] σ xIOB (fIsBlack σ a1 a2 a3 a4).2 1 := he ▸ ctX10_isBlack h.ci.dw
    refine ct_ofH (by decide +kernel) rfl (Nat.le_of_ble_eq_true rfl) rfl ?_
    refine go_aload (q := 2) (gDec iL_isBlack_ok 0 rfl) rfl rfl ?_
    refine go_iconst (v := 0) (q := 3) (gDec iL_isBlack_ok 1 rfl) (by decide) rfl ?_
    refine go_aload_n (q := 4) (gDec iL_isBlack_ok 2 rfl) rfl rfl rfl ?_
    refine go_iload_n (q := 5) (gDec iL_isBlack_ok 3 rfl) rfl rfl rfl ?_
    refine go_iload_n (q := 6) (gDec iL_isBlack_ok 4 rfl) rfl rfl rfl ?_
    refine go_iload_n (q := 7) (gDec iL_isBlack_ok 5 rfl) rfl rfl rfl ?_
    refine go_iload (q := 9) (gDec iL_isBlack_ok 6 rfl) rfl rfl ?_
    refine go_callV_c (n2 := 1) (t := 24) kL_96 hc (gDec iL_isBlack_ok 7 rfl) rfl rfl (by decide) rfl rfl rfl (Nat.le_of_ble_eq_true rfl) rfl (gFit_rm (by decide) (by decide)) (pre := []) (x := ⟨0, 21, 24, 21⟩) (suf := [⟨0, 21, 28, 13⟩]) rfl (fun _ h => absurd h List.not_mem_nil) rfl (by decide) wL_cO wL_kO rfl (fun q9 => ?_)
    refine go_astore (q := 26) (gDec iL_isBlack_ok 14 rfl) (by decide) rfl ?_
    refine go_iconst (v := 1) (q := 27) (gDec iL_isBlack_ok 15 rfl) (by decide) rfl ?_
    exact go_ireturn (gDec iL_isBlack_ok 16 rfl) rfl rfl (by rw [he, xc_OA_O]) (gOo_x he) (by decide)
  · have hc : gCt κ mX10_isBlack 9 [.ref (κ.2.1 + 0), .int a1, .int a2, .int a3, .int a4] σ xIAE (fIsBlack σ a1 a2 a3 a4).2 1 := he ▸ ctX10_isBlack h.ci.dw
    refine ct_ofH (by decide +kernel) rfl (Nat.le_of_ble_eq_true rfl) rfl ?_
    refine go_aload (q := 2) (gDec iL_isBlack_ok 0 rfl) rfl rfl ?_
    refine go_iconst (v := 0) (q := 3) (gDec iL_isBlack_ok 1 rfl) (by decide) rfl ?_
    refine go_aload_n (q := 4) (gDec iL_isBlack_ok 2 rfl) rfl rfl rfl ?_
    refine go_iload_n (q := 5) (gDec iL_isBlack_ok 3 rfl) rfl rfl rfl ?_
    refine go_iload_n (q := 6) (gDec iL_isBlack_ok 4 rfl) rfl rfl rfl ?_
    refine go_iload_n (q := 7) (gDec iL_isBlack_ok 5 rfl) rfl rfl rfl ?_
    refine go_iload (q := 9) (gDec iL_isBlack_ok 6 rfl) rfl rfl ?_
    refine go_callV_c (n2 := 1) (t := 28) kL_96 hc (gDec iL_isBlack_ok 7 rfl) rfl rfl (by decide) rfl rfl rfl (Nat.le_of_ble_eq_true rfl) rfl (gFit_rm (by decide) (by decide)) (pre := [⟨0, 21, 24, 21⟩]) (x := ⟨0, 21, 28, 13⟩) (suf := []) rfl (List.forall_mem_cons.mpr ⟨⟨by decide, _, wL_cO, List.mem_of_getElem? (i := 1) rfl⟩, (fun _ h => absurd h List.not_mem_nil)⟩) rfl (by decide) wL_cA wL_kA rfl (fun q9 => ?_)
    refine go_astore (q := 30) (gDec iL_isBlack_ok 17 rfl) (by decide) rfl ?_
    refine go_iconst (v := 2) (q := 31) (gDec iL_isBlack_ok 18 rfl) (by decide) rfl ?_
    exact go_ireturn (gDec iL_isBlack_ok 19 rfl) rfl rfl (by rw [he, xc_OA_A]) (gOo_x he) (by decide)

def iL_blackPixels : List (Nat × Instr × Nat) := [(0, .aload_n 3, 1), (1, .iconst 0, 1), (2, .aload_n 0, 1), (3, .iload_n 1, 1), (4, .iload_n 2, 1), (5, .invokevirtual 100, 3), (8, .i2l, 1), (9, .lastore, 1), (10, .goto 11, 3), (13, .astore 4, 2), (15, .iconst 1, 1), (16, .ireturn, 1), (17, .astore 4, 2), (19, .iconst 2, 1), (20, .ireturn, 1), (21, .iconst 0, 1), (22, .ireturn, 1)]
theorem iL_blackPixels_ok : gDecs mL_blackPixels iL_blackPixels := by decide +kernel

theorem o_blackPixels {σ : gST} {a1 a2 : Int32} : (∃ v, (fBlackPixels σ a1 a2).1 = rI v) ∨ (fBlackPixels σ a1 a2).1 = xIOB ∨ (fBlackPixels σ a1 a2).1 = xIAE := by
  unfold fBlackPixels
  repeat' split
  all_goals first | exact Or.inl ⟨_, rfl⟩ | exact Or.inr (Or.inl rfl) | exact Or.inr (Or.inr (rfl))
set_option maxHeartbeats 4000000 in
set_option maxRecDepth 100000 in
theorem ctL_blackPixels {κ : gK} {σ : gST} {a1 a2 : Int32} (h : gJ σ) : gCt κ mL_blackPixels 10 [.ref (κ.2.1 + 0), .int a1, .int a2, .ref (κ.2.1 + 390)] σ (rI (xC kOA (fBlackPixels σ a1 a2).1)) (gOo (fBlackPixels σ a1 a2)) 1 := by
  rcases o_blackPixels (σ := σ) (a1 := a1) (a2 := a2) with ⟨v, he⟩ | he | he
  · have hc : gCt κ mX10_blackPixels 9 [.ref (κ.2.1 + 0), .int a1, .int a2] σ (rI v) (fBlackPixels σ a1 a2).2 1 := he ▸ ctX10_blackPixels h.ci.dw
    refine ct_ofH (by decide +kernel) rfl (Nat.le_of_ble_eq_true rfl) rfl ?_
    refine go_aload_n (q := 1) (gDec iL_blackPixels_ok 0 rfl) rfl rfl rfl ?_
    refine go_iconst (v := 0) (q := 2) (gDec iL_blackPixels_ok 1 rfl) (by decide) rfl ?_
    refine go_aload_n (q := 3) (gDec iL_blackPixels_ok 2 rfl) rfl rfl rfl ?_
    refine go_iload_n (q := 4) (gDec iL_blackPixels_ok 3 rfl) rfl rfl rfl ?_
    refine go_iload_n (q := 5) (gDec iL_blackPixels_ok 4 rfl) rfl rfl rfl ?_
    refine go_callV (n2 := 1) (q := 8) kL_100 hc (gDec iL_blackPixels_ok 5 rfl) rfl rfl (by decide) rfl rfl rfl (Nat.le_of_ble_eq_true rfl) rfl (gFit_rm (by decide) (by decide)) rfl ?_
    refine go_i2l (q := 9) (gDec iL_blackPixels_ok 6 rfl) rfl ?_
    refine go_last (q := 10) (gDec iL_blackPixels_ok 7 rfl) vp_00 rfl ?_
    refine go_goto (t := 21) (gDec iL_blackPixels_ok 8 rfl) (by decide) ?_
    refine go_iconst (v := 0) (q := 22) (gDec iL_blackPixels_ok 15 rfl) (by decide) rfl ?_
    exact go_ireturn (gDec iL_blackPixels_ok 16 rfl) rfl rfl (by rw [he, xc_i]) (gOo_i he) (by decide)
  · have hc : gCt κ mX10_blackPixels 9 [.ref (κ.2.1 + 0), .int a1, .int a2] σ xIOB (fBlackPixels σ a1 a2).2 1 := he ▸ ctX10_blackPixels h.ci.dw
    refine ct_ofH (by decide +kernel) rfl (Nat.le_of_ble_eq_true rfl) rfl ?_
    refine go_aload_n (q := 1) (gDec iL_blackPixels_ok 0 rfl) rfl rfl rfl ?_
    refine go_iconst (v := 0) (q := 2) (gDec iL_blackPixels_ok 1 rfl) (by decide) rfl ?_
    refine go_aload_n (q := 3) (gDec iL_blackPixels_ok 2 rfl) rfl rfl rfl ?_
    refine go_iload_n (q := 4) (gDec iL_blackPixels_ok 3 rfl) rfl rfl rfl ?_
    refine go_iload_n (q := 5) (gDec iL_blackPixels_ok 4 rfl) rfl rfl rfl ?_
    refine go_callV_c (n2 := 1) (t := 13) kL_100 hc (gDec iL_blackPixels_ok 5 rfl) rfl rfl (by decide) rfl rfl rfl (Nat.le_of_ble_eq_true rfl) rfl (gFit_rm (by decide) (by decide)) (pre := []) (x := ⟨0, 10, 13, 21⟩) (suf := [⟨0, 10, 17, 13⟩]) rfl (fun _ h => absurd h List.not_mem_nil) rfl (by decide) wL_cO wL_kO rfl (fun q9 => ?_)
    refine go_astore (q := 15) (gDec iL_blackPixels_ok 9 rfl) (by decide) rfl ?_
    refine go_iconst (v := 1) (q := 16) (gDec iL_blackPixels_ok 10 rfl) (by decide) rfl ?_
    exact go_ireturn (gDec iL_blackPixels_ok 11 rfl) rfl rfl (by rw [he, xc_OA_O]) (gOo_x he) (by decide)
  · have hc : gCt κ mX10_blackPixels 9 [.ref (κ.2.1 + 0), .int a1, .int a2] σ xIAE (fBlackPixels σ a1 a2).2 1 := he ▸ ctX10_blackPixels h.ci.dw
    refine ct_ofH (by decide +kernel) rfl (Nat.le_of_ble_eq_true rfl) rfl ?_
    refine go_aload_n (q := 1) (gDec iL_blackPixels_ok 0 rfl) rfl rfl rfl ?_
    refine go_iconst (v := 0) (q := 2) (gDec iL_blackPixels_ok 1 rfl) (by decide) rfl ?_
    refine go_aload_n (q := 3) (gDec iL_blackPixels_ok 2 rfl) rfl rfl rfl ?_
    refine go_iload_n (q := 4) (gDec iL_blackPixels_ok 3 rfl) rfl rfl rfl ?_
    refine go_iload_n (q := 5) (gDec iL_blackPixels_ok 4 rfl) rfl rfl rfl ?_
    refine go_callV_c (n2 := 1) (t := 17) kL_100 hc (gDec iL_blackPixels_ok 5 rfl) rfl rfl (by decide) rfl rfl rfl (Nat.le_of_ble_eq_true rfl) rfl (gFit_rm (by decide) (by decide)) (pre := [⟨0, 10, 13, 21⟩]) (x := ⟨0, 10, 17, 13⟩) (suf := []) rfl (List.forall_mem_cons.mpr ⟨⟨by decide, _, wL_cO, List.mem_of_getElem? (i := 1) rfl⟩, (fun _ h => absurd h List.not_mem_nil)⟩) rfl (by decide) wL_cA wL_kA rfl (fun q9 => ?_)
    refine go_astore (q := 19) (gDec iL_blackPixels_ok 12 rfl) (by decide) rfl ?_
    refine go_iconst (v := 2) (q := 20) (gDec iL_blackPixels_ok 13 rfl) (by decide) rfl ?_
    exact go_ireturn (gDec iL_blackPixels_ok 14 rfl) rfl rfl (by rw [he, xc_OA_A]) (gOo_x he) (by decide)

def iL_setProof : List (Nat × Instr × Nat) := [(0, .aload_n 3, 1), (1, .iconst 0, 1), (2, .aload_n 0, 1), (3, .iload_n 1, 1), (4, .iload_n 2, 1), (5, .invokevirtual 103, 3), (8, .i2l, 1), (9, .lastore, 1), (10, .goto 7, 3), (13, .astore 4, 2), (15, .iconst 1, 1), (16, .ireturn, 1), (17, .iconst 0, 1), (18, .ireturn, 1)]
theorem iL_setProof_ok : gDecs mL_setProof iL_setProof := by decide +kernel

theorem o_setProof {σ : gST} {a1 a2 : Int32} : (∃ v, (fSetProof σ a1 a2).1 = rI v) ∨ (fSetProof σ a1 a2).1 = xIAE := by
  unfold fSetProof
  repeat' split
  all_goals first | exact Or.inl ⟨_, rfl⟩ | exact Or.inr (rfl)
set_option maxHeartbeats 4000000 in
set_option maxRecDepth 100000 in
theorem ctL_setProof {κ : gK} {σ : gST} {a1 a2 : Int32} (h : gJ σ) : gCt κ mL_setProof 10 [.ref (κ.2.1 + 0), .int a1, .int a2, .ref (κ.2.1 + 390)] σ (rI (xC kA (fSetProof σ a1 a2).1)) (gOo (fSetProof σ a1 a2)) 1 := by
  rcases o_setProof (σ := σ) (a1 := a1) (a2 := a2) with ⟨v, he⟩ | he
  · have hc : gCt κ mX10_setProof 9 [.ref (κ.2.1 + 0), .int a1, .int a2] σ (rI v) (fSetProof σ a1 a2).2 1 := he ▸ ctX10_setProof h.ci.dw h.cb.1
    refine ct_ofH (by decide +kernel) rfl (Nat.le_of_ble_eq_true rfl) rfl ?_
    refine go_aload_n (q := 1) (gDec iL_setProof_ok 0 rfl) rfl rfl rfl ?_
    refine go_iconst (v := 0) (q := 2) (gDec iL_setProof_ok 1 rfl) (by decide) rfl ?_
    refine go_aload_n (q := 3) (gDec iL_setProof_ok 2 rfl) rfl rfl rfl ?_
    refine go_iload_n (q := 4) (gDec iL_setProof_ok 3 rfl) rfl rfl rfl ?_
    refine go_iload_n (q := 5) (gDec iL_setProof_ok 4 rfl) rfl rfl rfl ?_
    refine go_callV (n2 := 1) (q := 8) kL_103 hc (gDec iL_setProof_ok 5 rfl) rfl rfl (by decide) rfl rfl rfl (Nat.le_of_ble_eq_true rfl) rfl (gFit_rm (by decide) (by decide)) rfl ?_
    refine go_i2l (q := 9) (gDec iL_setProof_ok 6 rfl) rfl ?_
    refine go_last (q := 10) (gDec iL_setProof_ok 7 rfl) vp_00 rfl ?_
    refine go_goto (t := 17) (gDec iL_setProof_ok 8 rfl) (by decide) ?_
    refine go_iconst (v := 0) (q := 18) (gDec iL_setProof_ok 12 rfl) (by decide) rfl ?_
    exact go_ireturn (gDec iL_setProof_ok 13 rfl) rfl rfl (by rw [he, xc_i]) (gOo_i he) (by decide)
  · have hc : gCt κ mX10_setProof 9 [.ref (κ.2.1 + 0), .int a1, .int a2] σ xIAE (fSetProof σ a1 a2).2 1 := he ▸ ctX10_setProof h.ci.dw h.cb.1
    refine ct_ofH (by decide +kernel) rfl (Nat.le_of_ble_eq_true rfl) rfl ?_
    refine go_aload_n (q := 1) (gDec iL_setProof_ok 0 rfl) rfl rfl rfl ?_
    refine go_iconst (v := 0) (q := 2) (gDec iL_setProof_ok 1 rfl) (by decide) rfl ?_
    refine go_aload_n (q := 3) (gDec iL_setProof_ok 2 rfl) rfl rfl rfl ?_
    refine go_iload_n (q := 4) (gDec iL_setProof_ok 3 rfl) rfl rfl rfl ?_
    refine go_iload_n (q := 5) (gDec iL_setProof_ok 4 rfl) rfl rfl rfl ?_
    refine go_callV_c (n2 := 1) (t := 13) kL_103 hc (gDec iL_setProof_ok 5 rfl) rfl rfl (by decide) rfl rfl rfl (Nat.le_of_ble_eq_true rfl) rfl (gFit_rm (by decide) (by decide)) (pre := []) (x := ⟨0, 10, 13, 13⟩) (suf := []) rfl (fun _ h => absurd h List.not_mem_nil) rfl (by decide) wL_cA wL_kA rfl (fun q9 => ?_)
    refine go_astore (q := 15) (gDec iL_setProof_ok 9 rfl) (by decide) rfl ?_
    refine go_iconst (v := 1) (q := 16) (gDec iL_setProof_ok 10 rfl) (by decide) rfl ?_
    exact go_ireturn (gDec iL_setProof_ok 11 rfl) rfl rfl (by rw [he, xc_A_A]) (gOo_x he) (by decide)

def iL_append : List (Nat × Instr × Nat) := [(0, .aload_n 0, 1), (1, .iload_n 1, 1), (2, .invokevirtual 106, 3), (5, .goto 6, 3), (8, .astore_n 2, 1), (9, .iconst 1, 1), (10, .ireturn, 1), (11, .iconst 0, 1), (12, .ireturn, 1)]
theorem iL_append_ok : gDecs mL_append iL_append := by decide +kernel

theorem o_append {σ : gST} {a1 : Int32} : (fAppend σ a1).1 = .inl none ∨ (fAppend σ a1).1 = xISE := by
  unfold fAppend
  repeat' split
  all_goals first | exact Or.inl rfl | exact Or.inr (rfl)
set_option maxHeartbeats 4000000 in
set_option maxRecDepth 100000 in
theorem ctL_append {κ : gK} {σ : gST} {a1 : Int32} (h : gJ σ) : gCt κ mL_append 10 [.ref (κ.2.1 + 0), .int a1] σ (rI (xC kS (fAppend σ a1).1)) (gOo (fAppend σ a1)) 1 := by
  rcases o_append (σ := σ) (a1 := a1) with he | he
  · have hc : gCt κ mX10_append 9 [.ref (κ.2.1 + 0), .int a1] σ (.inl none) (fAppend σ a1).2 1 := he ▸ ctX10_append h.cb.2.1
    refine ct_ofH (by decide +kernel) rfl (Nat.le_of_ble_eq_true rfl) rfl ?_
    refine go_aload_n (q := 1) (gDec iL_append_ok 0 rfl) rfl rfl rfl ?_
    refine go_iload_n (q := 2) (gDec iL_append_ok 1 rfl) rfl rfl rfl ?_
    refine go_callV (n2 := 1) (q := 5) kL_106 hc (gDec iL_append_ok 2 rfl) rfl rfl (by decide) rfl rfl rfl (Nat.le_of_ble_eq_true rfl) rfl (gFit_rm (by decide) (by decide)) rfl ?_
    refine go_goto (t := 11) (gDec iL_append_ok 3 rfl) (by decide) ?_
    refine go_iconst (v := 0) (q := 12) (gDec iL_append_ok 7 rfl) (by decide) rfl ?_
    exact go_ireturn (gDec iL_append_ok 8 rfl) rfl rfl (by rw [he, xc_n]) (gOo_n he) (by decide)
  · have hc : gCt κ mX10_append 9 [.ref (κ.2.1 + 0), .int a1] σ xISE (fAppend σ a1).2 1 := he ▸ ctX10_append h.cb.2.1
    refine ct_ofH (by decide +kernel) rfl (Nat.le_of_ble_eq_true rfl) rfl ?_
    refine go_aload_n (q := 1) (gDec iL_append_ok 0 rfl) rfl rfl rfl ?_
    refine go_iload_n (q := 2) (gDec iL_append_ok 1 rfl) rfl rfl rfl ?_
    refine go_callV_c (n2 := 1) (t := 8) kL_106 hc (gDec iL_append_ok 2 rfl) rfl rfl (by decide) rfl rfl rfl (Nat.le_of_ble_eq_true rfl) rfl (gFit_rm (by decide) (by decide)) (pre := []) (x := ⟨0, 5, 8, 15⟩) (suf := []) rfl (fun _ h => absurd h List.not_mem_nil) rfl (by decide) wL_cS wL_kS rfl (fun q9 => ?_)
    refine go_astore_n (q := 9) (gDec iL_append_ok 4 rfl) rfl (by decide) rfl ?_
    refine go_iconst (v := 1) (q := 10) (gDec iL_append_ok 5 rfl) (by decide) rfl ?_
    exact go_ireturn (gDec iL_append_ok 6 rfl) rfl rfl (by rw [he, xc_S_S]) (gOo_x he) (by decide)

def iL_takeProof : List (Nat × Instr × Nat) := [(0, .aload_n 1, 1), (1, .iconst 0, 1), (2, .aload_n 0, 1), (3, .invokevirtual 110, 3), (6, .i2l, 1), (7, .lastore, 1), (8, .goto 6, 3), (11, .astore_n 2, 1), (12, .iconst 1, 1), (13, .ireturn, 1), (14, .iconst 0, 1), (15, .ireturn, 1)]
theorem iL_takeProof_ok : gDecs mL_takeProof iL_takeProof := by decide +kernel

theorem o_takeProof {σ : gST} : (∃ v, (fTakeProof σ).1 = rI v) ∨ (fTakeProof σ).1 = xIAE := by
  unfold fTakeProof
  repeat' split
  all_goals first | exact Or.inl ⟨_, rfl⟩ | exact Or.inr (rfl)
set_option maxHeartbeats 4000000 in
set_option maxRecDepth 100000 in
theorem ctL_takeProof {κ : gK} {σ : gST} (h : gJ σ) : gCt κ mL_takeProof 10 [.ref (κ.2.1 + 0), .ref (κ.2.1 + 390)] σ (rI (xC kA (fTakeProof σ).1)) (gOo (fTakeProof σ)) 1 := by
  rcases o_takeProof (σ := σ) with ⟨v, he⟩ | he
  · have hc : gCt κ mX10_takeProof 9 [.ref (κ.2.1 + 0)] σ (rI v) (fTakeProof σ).2 1 := he ▸ ctX10_takeProof h.ci.dw h.cb.2.1
    refine ct_ofH (by decide +kernel) rfl (Nat.le_of_ble_eq_true rfl) rfl ?_
    refine go_aload_n (q := 1) (gDec iL_takeProof_ok 0 rfl) rfl rfl rfl ?_
    refine go_iconst (v := 0) (q := 2) (gDec iL_takeProof_ok 1 rfl) (by decide) rfl ?_
    refine go_aload_n (q := 3) (gDec iL_takeProof_ok 2 rfl) rfl rfl rfl ?_
    refine go_callV (n2 := 1) (q := 6) kL_110 hc (gDec iL_takeProof_ok 3 rfl) rfl rfl (by decide) rfl rfl rfl (Nat.le_of_ble_eq_true rfl) rfl (gFit_rm (by decide) (by decide)) rfl ?_
    refine go_i2l (q := 7) (gDec iL_takeProof_ok 4 rfl) rfl ?_
    refine go_last (q := 8) (gDec iL_takeProof_ok 5 rfl) vp_00 rfl ?_
    refine go_goto (t := 14) (gDec iL_takeProof_ok 6 rfl) (by decide) ?_
    refine go_iconst (v := 0) (q := 15) (gDec iL_takeProof_ok 10 rfl) (by decide) rfl ?_
    exact go_ireturn (gDec iL_takeProof_ok 11 rfl) rfl rfl (by rw [he, xc_i]) (gOo_i he) (by decide)
  · have hc : gCt κ mX10_takeProof 9 [.ref (κ.2.1 + 0)] σ xIAE (fTakeProof σ).2 1 := he ▸ ctX10_takeProof h.ci.dw h.cb.2.1
    refine ct_ofH (by decide +kernel) rfl (Nat.le_of_ble_eq_true rfl) rfl ?_
    refine go_aload_n (q := 1) (gDec iL_takeProof_ok 0 rfl) rfl rfl rfl ?_
    refine go_iconst (v := 0) (q := 2) (gDec iL_takeProof_ok 1 rfl) (by decide) rfl ?_
    refine go_aload_n (q := 3) (gDec iL_takeProof_ok 2 rfl) rfl rfl rfl ?_
    refine go_callV_c (n2 := 1) (t := 11) kL_110 hc (gDec iL_takeProof_ok 3 rfl) rfl rfl (by decide) rfl rfl rfl (Nat.le_of_ble_eq_true rfl) rfl (gFit_rm (by decide) (by decide)) (pre := []) (x := ⟨0, 8, 11, 13⟩) (suf := []) rfl (fun _ h => absurd h List.not_mem_nil) rfl (by decide) wL_cA wL_kA rfl (fun q9 => ?_)
    refine go_astore_n (q := 12) (gDec iL_takeProof_ok 7 rfl) rfl (by decide) rfl ?_
    refine go_iconst (v := 1) (q := 13) (gDec iL_takeProof_ok 8 rfl) (by decide) rfl ?_
    exact go_ireturn (gDec iL_takeProof_ok 9 rfl) rfl rfl (by rw [he, xc_A_A]) (gOo_x he) (by decide)

def iL_proofWidth : List (Nat × Instr × Nat) := [(0, .aload_n 1, 1), (1, .iconst 0, 1), (2, .aload_n 0, 1), (3, .invokevirtual 114, 3), (6, .i2l, 1), (7, .lastore, 1), (8, .goto 6, 3), (11, .astore_n 2, 1), (12, .iconst 1, 1), (13, .ireturn, 1), (14, .iconst 0, 1), (15, .ireturn, 1)]
theorem iL_proofWidth_ok : gDecs mL_proofWidth iL_proofWidth := by decide +kernel

theorem o_proofWidth {σ : gST} : (∃ v, (fProofWidth σ).1 = rI v) ∨ (fProofWidth σ).1 = xNSE := by
  unfold fProofWidth
  repeat' split
  all_goals first | exact Or.inl ⟨_, rfl⟩ | exact Or.inr (rfl)
set_option maxHeartbeats 4000000 in
set_option maxRecDepth 100000 in
theorem ctL_proofWidth {κ : gK} {σ : gST} (h : gJ σ) : gCt κ mL_proofWidth 10 [.ref (κ.2.1 + 0), .ref (κ.2.1 + 390)] σ (rI (xC kN (fProofWidth σ).1)) (gOo (fProofWidth σ)) 1 := by
  rcases o_proofWidth (σ := σ) with ⟨v, he⟩ | he
  · have hc : gCt κ mX10_proofWidth 9 [.ref (κ.2.1 + 0)] σ (rI v) (fProofWidth σ).2 1 := he ▸ ctX10_proofWidth h.ci.dw h.cb.2.2.1
    refine ct_ofH (by decide +kernel) rfl (Nat.le_of_ble_eq_true rfl) rfl ?_
    refine go_aload_n (q := 1) (gDec iL_proofWidth_ok 0 rfl) rfl rfl rfl ?_
    refine go_iconst (v := 0) (q := 2) (gDec iL_proofWidth_ok 1 rfl) (by decide) rfl ?_
    refine go_aload_n (q := 3) (gDec iL_proofWidth_ok 2 rfl) rfl rfl rfl ?_
    refine go_callV (n2 := 1) (q := 6) kL_114 hc (gDec iL_proofWidth_ok 3 rfl) rfl rfl (by decide) rfl rfl rfl (Nat.le_of_ble_eq_true rfl) rfl (gFit_rm (by decide) (by decide)) rfl ?_
    refine go_i2l (q := 7) (gDec iL_proofWidth_ok 4 rfl) rfl ?_
    refine go_last (q := 8) (gDec iL_proofWidth_ok 5 rfl) vp_00 rfl ?_
    refine go_goto (t := 14) (gDec iL_proofWidth_ok 6 rfl) (by decide) ?_
    refine go_iconst (v := 0) (q := 15) (gDec iL_proofWidth_ok 10 rfl) (by decide) rfl ?_
    exact go_ireturn (gDec iL_proofWidth_ok 11 rfl) rfl rfl (by rw [he, xc_i]) (gOo_i he) (by decide)
  · have hc : gCt κ mX10_proofWidth 9 [.ref (κ.2.1 + 0)] σ xNSE (fProofWidth σ).2 1 := he ▸ ctX10_proofWidth h.ci.dw h.cb.2.2.1
    refine ct_ofH (by decide +kernel) rfl (Nat.le_of_ble_eq_true rfl) rfl ?_
    refine go_aload_n (q := 1) (gDec iL_proofWidth_ok 0 rfl) rfl rfl rfl ?_
    refine go_iconst (v := 0) (q := 2) (gDec iL_proofWidth_ok 1 rfl) (by decide) rfl ?_
    refine go_aload_n (q := 3) (gDec iL_proofWidth_ok 2 rfl) rfl rfl rfl ?_
    refine go_callV_c (n2 := 1) (t := 11) kL_114 hc (gDec iL_proofWidth_ok 3 rfl) rfl rfl (by decide) rfl rfl rfl (Nat.le_of_ble_eq_true rfl) rfl (gFit_rm (by decide) (by decide)) (pre := []) (x := ⟨0, 8, 11, 37⟩) (suf := []) rfl (fun _ h => absurd h List.not_mem_nil) rfl (by decide) wL_cN wL_kN rfl (fun q9 => ?_)
    refine go_astore_n (q := 12) (gDec iL_proofWidth_ok 7 rfl) rfl (by decide) rfl ?_
    refine go_iconst (v := 1) (q := 13) (gDec iL_proofWidth_ok 8 rfl) (by decide) rfl ?_
    exact go_ireturn (gDec iL_proofWidth_ok 9 rfl) rfl rfl (by rw [he, xc_N_N]) (gOo_x he) (by decide)

def iL_position : List (Nat × Instr × Nat) := [(0, .aload_n 2, 1), (1, .iconst 0, 1), (2, .aload_n 0, 1), (3, .iload_n 1, 1), (4, .invokevirtual 117, 3), (7, .i2l, 1), (8, .lastore, 1), (9, .goto 6, 3), (12, .astore_n 3, 1), (13, .iconst 1, 1), (14, .ireturn, 1), (15, .iconst 0, 1), (16, .ireturn, 1)]
theorem iL_position_ok : gDecs mL_position iL_position := by decide +kernel

theorem o_position {σ : gST} {a1 : Int32} : (∃ v, (fPosition σ a1).1 = rI v) ∨ (fPosition σ a1).1 = xNSE := by
  unfold fPosition
  repeat' split
  all_goals first | exact Or.inl ⟨_, rfl⟩ | exact Or.inr (rfl)
set_option maxHeartbeats 4000000 in
set_option maxRecDepth 100000 in
theorem ctL_position {κ : gK} {σ : gST} {a1 : Int32} (h : gJ σ) : gCt κ mL_position 10 [.ref (κ.2.1 + 0), .int a1, .ref (κ.2.1 + 390)] σ (rI (xC kN (fPosition σ a1).1)) (gOo (fPosition σ a1)) 1 := by
  rcases o_position (σ := σ) (a1 := a1) with ⟨v, he⟩ | he
  · have hc : gCt κ mX10_position 9 [.ref (κ.2.1 + 0), .int a1] σ (rI v) (fPosition σ a1).2 1 := he ▸ ctX10_position h.ci.dw h.cb.2.2.1
    refine ct_ofH (by decide +kernel) rfl (Nat.le_of_ble_eq_true rfl) rfl ?_
    refine go_aload_n (q := 1) (gDec iL_position_ok 0 rfl) rfl rfl rfl ?_
    refine go_iconst (v := 0) (q := 2) (gDec iL_position_ok 1 rfl) (by decide) rfl ?_
    refine go_aload_n (q := 3) (gDec iL_position_ok 2 rfl) rfl rfl rfl ?_
    refine go_iload_n (q := 4) (gDec iL_position_ok 3 rfl) rfl rfl rfl ?_
    refine go_callV (n2 := 1) (q := 7) kL_117 hc (gDec iL_position_ok 4 rfl) rfl rfl (by decide) rfl rfl rfl (Nat.le_of_ble_eq_true rfl) rfl (gFit_rm (by decide) (by decide)) rfl ?_
    refine go_i2l (q := 8) (gDec iL_position_ok 5 rfl) rfl ?_
    refine go_last (q := 9) (gDec iL_position_ok 6 rfl) vp_00 rfl ?_
    refine go_goto (t := 15) (gDec iL_position_ok 7 rfl) (by decide) ?_
    refine go_iconst (v := 0) (q := 16) (gDec iL_position_ok 11 rfl) (by decide) rfl ?_
    exact go_ireturn (gDec iL_position_ok 12 rfl) rfl rfl (by rw [he, xc_i]) (gOo_i he) (by decide)
  · have hc : gCt κ mX10_position 9 [.ref (κ.2.1 + 0), .int a1] σ xNSE (fPosition σ a1).2 1 := he ▸ ctX10_position h.ci.dw h.cb.2.2.1
    refine ct_ofH (by decide +kernel) rfl (Nat.le_of_ble_eq_true rfl) rfl ?_
    refine go_aload_n (q := 1) (gDec iL_position_ok 0 rfl) rfl rfl rfl ?_
    refine go_iconst (v := 0) (q := 2) (gDec iL_position_ok 1 rfl) (by decide) rfl ?_
    refine go_aload_n (q := 3) (gDec iL_position_ok 2 rfl) rfl rfl rfl ?_
    refine go_iload_n (q := 4) (gDec iL_position_ok 3 rfl) rfl rfl rfl ?_
    refine go_callV_c (n2 := 1) (t := 12) kL_117 hc (gDec iL_position_ok 4 rfl) rfl rfl (by decide) rfl rfl rfl (Nat.le_of_ble_eq_true rfl) rfl (gFit_rm (by decide) (by decide)) (pre := []) (x := ⟨0, 9, 12, 37⟩) (suf := []) rfl (fun _ h => absurd h List.not_mem_nil) rfl (by decide) wL_cN wL_kN rfl (fun q9 => ?_)
    refine go_astore_n (q := 13) (gDec iL_position_ok 8 rfl) rfl (by decide) rfl ?_
    refine go_iconst (v := 1) (q := 14) (gDec iL_position_ok 9 rfl) (by decide) rfl ?_
    exact go_ireturn (gDec iL_position_ok 10 rfl) rfl rfl (by rw [he, xc_N_N]) (gOo_x he) (by decide)

def iL_lines : List (Nat × Instr × Nat) := [(0, .aload_n 2, 1), (1, .iconst 0, 1), (2, .aload_n 0, 1), (3, .iload_n 1, 1), (4, .invokevirtual 120, 3), (7, .i2l, 1), (8, .lastore, 1), (9, .goto 6, 3), (12, .astore_n 3, 1), (13, .iconst 1, 1), (14, .ireturn, 1), (15, .iconst 0, 1), (16, .ireturn, 1)]
theorem iL_lines_ok : gDecs mL_lines iL_lines := by decide +kernel

theorem o_lines {σ : gST} {a1 : Int32} : (∃ v, (fLines σ a1).1 = rI v) ∨ (fLines σ a1).1 = xIAE := by
  unfold fLines
  repeat' split
  all_goals first | exact Or.inl ⟨_, rfl⟩ | exact Or.inr (rfl)
set_option maxHeartbeats 4000000 in
set_option maxRecDepth 100000 in
theorem ctL_lines {κ : gK} {σ : gST} {a1 : Int32} (h : gJ σ) : gCt κ mL_lines 10 [.ref (κ.2.1 + 0), .int a1, .ref (κ.2.1 + 390)] σ (rI (xC kA (fLines σ a1).1)) (gOo (fLines σ a1)) 1 := by
  rcases o_lines (σ := σ) (a1 := a1) with ⟨v, he⟩ | he
  · have hc : gCt κ mX10_lines 9 [.ref (κ.2.1 + 0), .int a1] σ (rI v) (fLines σ a1).2 1 := he ▸ ctX10_lines h.ci.dw h.cb.2.2.1
    refine ct_ofH (by decide +kernel) rfl (Nat.le_of_ble_eq_true rfl) rfl ?_
    refine go_aload_n (q := 1) (gDec iL_lines_ok 0 rfl) rfl rfl rfl ?_
    refine go_iconst (v := 0) (q := 2) (gDec iL_lines_ok 1 rfl) (by decide) rfl ?_
    refine go_aload_n (q := 3) (gDec iL_lines_ok 2 rfl) rfl rfl rfl ?_
    refine go_iload_n (q := 4) (gDec iL_lines_ok 3 rfl) rfl rfl rfl ?_
    refine go_callV (n2 := 1) (q := 7) kL_120 hc (gDec iL_lines_ok 4 rfl) rfl rfl (by decide) rfl rfl rfl (Nat.le_of_ble_eq_true rfl) rfl (gFit_rm (by decide) (by decide)) rfl ?_
    refine go_i2l (q := 8) (gDec iL_lines_ok 5 rfl) rfl ?_
    refine go_last (q := 9) (gDec iL_lines_ok 6 rfl) vp_00 rfl ?_
    refine go_goto (t := 15) (gDec iL_lines_ok 7 rfl) (by decide) ?_
    refine go_iconst (v := 0) (q := 16) (gDec iL_lines_ok 11 rfl) (by decide) rfl ?_
    exact go_ireturn (gDec iL_lines_ok 12 rfl) rfl rfl (by rw [he, xc_i]) (gOo_i he) (by decide)
  · have hc : gCt κ mX10_lines 9 [.ref (κ.2.1 + 0), .int a1] σ xIAE (fLines σ a1).2 1 := he ▸ ctX10_lines h.ci.dw h.cb.2.2.1
    refine ct_ofH (by decide +kernel) rfl (Nat.le_of_ble_eq_true rfl) rfl ?_
    refine go_aload_n (q := 1) (gDec iL_lines_ok 0 rfl) rfl rfl rfl ?_
    refine go_iconst (v := 0) (q := 2) (gDec iL_lines_ok 1 rfl) (by decide) rfl ?_
    refine go_aload_n (q := 3) (gDec iL_lines_ok 2 rfl) rfl rfl rfl ?_
    refine go_iload_n (q := 4) (gDec iL_lines_ok 3 rfl) rfl rfl rfl ?_
    refine go_callV_c (n2 := 1) (t := 12) kL_120 hc (gDec iL_lines_ok 4 rfl) rfl rfl (by decide) rfl rfl rfl (Nat.le_of_ble_eq_true rfl) rfl (gFit_rm (by decide) (by decide)) (pre := []) (x := ⟨0, 9, 12, 13⟩) (suf := []) rfl (fun _ h => absurd h List.not_mem_nil) rfl (by decide) wL_cA wL_kA rfl (fun q9 => ?_)
    refine go_astore_n (q := 13) (gDec iL_lines_ok 8 rfl) rfl (by decide) rfl ?_
    refine go_iconst (v := 1) (q := 14) (gDec iL_lines_ok 9 rfl) (by decide) rfl ?_
    exact go_ireturn (gDec iL_lines_ok 10 rfl) rfl rfl (by rw [he, xc_A_A]) (gOo_x he) (by decide)

def iL_line : List (Nat × Instr × Nat) := [(0, .aload 4, 2), (2, .iconst 0, 1), (3, .aload_n 0, 1), (4, .iload_n 1, 1), (5, .iload_n 2, 1), (6, .iload_n 3, 1), (7, .invokevirtual 123, 3), (10, .i2l, 1), (11, .lastore, 1), (12, .goto 11, 3), (15, .astore 5, 2), (17, .iconst 1, 1), (18, .ireturn, 1), (19, .astore 5, 2), (21, .iconst 2, 1), (22, .ireturn, 1), (23, .iconst 0, 1), (24, .ireturn, 1)]
theorem iL_line_ok : gDecs mL_line iL_line := by decide +kernel

theorem o_line {σ : gST} {a1 a2 a3 : Int32} : (∃ v, (fLine σ a1 a2 a3).1 = rI v) ∨ (fLine σ a1 a2 a3).1 = xIAE ∨ (fLine σ a1 a2 a3).1 = xNSE := by
  unfold fLine
  repeat' split
  all_goals first | exact Or.inl ⟨_, rfl⟩ | exact Or.inr (Or.inl rfl) | exact Or.inr (Or.inr (rfl))
set_option maxHeartbeats 4000000 in
set_option maxRecDepth 100000 in
theorem ctL_line {κ : gK} {σ : gST} {a1 a2 a3 : Int32} (h : gJ σ) : gCt κ mL_line 10 [.ref (κ.2.1 + 0), .int a1, .int a2, .int a3, .ref (κ.2.1 + 390)] σ (rI (xC kAN (fLine σ a1 a2 a3).1)) (gOo (fLine σ a1 a2 a3)) 1 := by
  rcases o_line (σ := σ) (a1 := a1) (a2 := a2) (a3 := a3) with ⟨v, he⟩ | he | he
  · have hc : gCt κ mX10_line 9 [.ref (κ.2.1 + 0), .int a1, .int a2, .int a3] σ (rI v) (fLine σ a1 a2 a3).2 1 := he ▸ ctX10_line h.ci.dw h.cb.2.2.1
    refine ct_ofH (by decide +kernel) rfl (Nat.le_of_ble_eq_true rfl) rfl ?_
    refine go_aload (q := 2) (gDec iL_line_ok 0 rfl) rfl rfl ?_
    refine go_iconst (v := 0) (q := 3) (gDec iL_line_ok 1 rfl) (by decide) rfl ?_
    refine go_aload_n (q := 4) (gDec iL_line_ok 2 rfl) rfl rfl rfl ?_
    refine go_iload_n (q := 5) (gDec iL_line_ok 3 rfl) rfl rfl rfl ?_
    refine go_iload_n (q := 6) (gDec iL_line_ok 4 rfl) rfl rfl rfl ?_
    refine go_iload_n (q := 7) (gDec iL_line_ok 5 rfl) rfl rfl rfl ?_
    refine go_callV (n2 := 1) (q := 10) kL_123 hc (gDec iL_line_ok 6 rfl) rfl rfl (by decide) rfl rfl rfl (Nat.le_of_ble_eq_true rfl) rfl (gFit_rm (by decide) (by decide)) rfl ?_
    refine go_i2l (q := 11) (gDec iL_line_ok 7 rfl) rfl ?_
    refine go_last (q := 12) (gDec iL_line_ok 8 rfl) vp_00 rfl ?_
    refine go_goto (t := 23) (gDec iL_line_ok 9 rfl) (by decide) ?_
    refine go_iconst (v := 0) (q := 24) (gDec iL_line_ok 16 rfl) (by decide) rfl ?_
    exact go_ireturn (gDec iL_line_ok 17 rfl) rfl rfl (by rw [he, xc_i]) (gOo_i he) (by decide)
  · have hc : gCt κ mX10_line 9 [.ref (κ.2.1 + 0), .int a1, .int a2, .int a3] σ xIAE (fLine σ a1 a2 a3).2 1 := he ▸ ctX10_line h.ci.dw h.cb.2.2.1
    refine ct_ofH (by decide +kernel) rfl (Nat.le_of_ble_eq_true rfl) rfl ?_
    refine go_aload (q := 2) (gDec iL_line_ok 0 rfl) rfl rfl ?_
    refine go_iconst (v := 0) (q := 3) (gDec iL_line_ok 1 rfl) (by decide) rfl ?_
    refine go_aload_n (q := 4) (gDec iL_line_ok 2 rfl) rfl rfl rfl ?_
    refine go_iload_n (q := 5) (gDec iL_line_ok 3 rfl) rfl rfl rfl ?_
    refine go_iload_n (q := 6) (gDec iL_line_ok 4 rfl) rfl rfl rfl ?_
    refine go_iload_n (q := 7) (gDec iL_line_ok 5 rfl) rfl rfl rfl ?_
    refine go_callV_c (n2 := 1) (t := 15) kL_123 hc (gDec iL_line_ok 6 rfl) rfl rfl (by decide) rfl rfl rfl (Nat.le_of_ble_eq_true rfl) rfl (gFit_rm (by decide) (by decide)) (pre := []) (x := ⟨0, 12, 15, 13⟩) (suf := [⟨0, 12, 19, 37⟩]) rfl (fun _ h => absurd h List.not_mem_nil) rfl (by decide) wL_cA wL_kA rfl (fun q9 => ?_)
    refine go_astore (q := 17) (gDec iL_line_ok 10 rfl) (by decide) rfl ?_
    refine go_iconst (v := 1) (q := 18) (gDec iL_line_ok 11 rfl) (by decide) rfl ?_
    exact go_ireturn (gDec iL_line_ok 12 rfl) rfl rfl (by rw [he, xc_AN_A]) (gOo_x he) (by decide)
  · have hc : gCt κ mX10_line 9 [.ref (κ.2.1 + 0), .int a1, .int a2, .int a3] σ xNSE (fLine σ a1 a2 a3).2 1 := he ▸ ctX10_line h.ci.dw h.cb.2.2.1
    refine ct_ofH (by decide +kernel) rfl (Nat.le_of_ble_eq_true rfl) rfl ?_
    refine go_aload (q := 2) (gDec iL_line_ok 0 rfl) rfl rfl ?_
    refine go_iconst (v := 0) (q := 3) (gDec iL_line_ok 1 rfl) (by decide) rfl ?_
    refine go_aload_n (q := 4) (gDec iL_line_ok 2 rfl) rfl rfl rfl ?_
    refine go_iload_n (q := 5) (gDec iL_line_ok 3 rfl) rfl rfl rfl ?_
    refine go_iload_n (q := 6) (gDec iL_line_ok 4 rfl) rfl rfl rfl ?_
    refine go_iload_n (q := 7) (gDec iL_line_ok 5 rfl) rfl rfl rfl ?_
    refine go_callV_c (n2 := 1) (t := 19) kL_123 hc (gDec iL_line_ok 6 rfl) rfl rfl (by decide) rfl rfl rfl (Nat.le_of_ble_eq_true rfl) rfl (gFit_rm (by decide) (by decide)) (pre := [⟨0, 12, 15, 13⟩]) (x := ⟨0, 12, 19, 37⟩) (suf := []) rfl (List.forall_mem_cons.mpr ⟨⟨by decide, _, wL_cA, List.mem_of_getElem? (i := 5) rfl⟩, (fun _ h => absurd h List.not_mem_nil)⟩) rfl (by decide) wL_cN wL_kN rfl (fun q9 => ?_)
    refine go_astore (q := 21) (gDec iL_line_ok 13 rfl) (by decide) rfl ?_
    refine go_iconst (v := 2) (q := 22) (gDec iL_line_ok 14 rfl) (by decide) rfl ?_
    exact go_ireturn (gDec iL_line_ok 15 rfl) rfl rfl (by rw [he, xc_AN_N]) (gOo_x he) (by decide)

def iL_leastMeasure : List (Nat × Instr × Nat) := [(0, .aload_n 2, 1), (1, .iconst 0, 1), (2, .aload_n 0, 1), (3, .iload_n 1, 1), (4, .invokevirtual 126, 3), (7, .i2l, 1), (8, .lastore, 1), (9, .goto 9, 3), (12, .astore_n 3, 1), (13, .iconst 1, 1), (14, .ireturn, 1), (15, .astore_n 3, 1), (16, .iconst 2, 1), (17, .ireturn, 1), (18, .iconst 0, 1), (19, .ireturn, 1)]
theorem iL_leastMeasure_ok : gDecs mL_leastMeasure iL_leastMeasure := by decide +kernel

theorem o_leastMeasure {σ : gST} {a1 : Int32} : (∃ v, (fLeast σ a1).1 = rI v) ∨ (fLeast σ a1).1 = xIAE ∨ (fLeast σ a1).1 = xNSE := by
  unfold fLeast
  repeat' split
  all_goals first | exact Or.inl ⟨_, rfl⟩ | exact Or.inr (Or.inl rfl) | exact Or.inr (Or.inr (rfl))
set_option maxHeartbeats 4000000 in
set_option maxRecDepth 100000 in
theorem ctL_leastMeasure {κ : gK} {σ : gST} {a1 : Int32} (h : gJ σ) : gCt κ mL_leastMeasure 10 [.ref (κ.2.1 + 0), .int a1, .ref (κ.2.1 + 390)] σ (rI (xC kAN (fLeast σ a1).1)) (gOo (fLeast σ a1)) 1 := by
  rcases o_leastMeasure (σ := σ) (a1 := a1) with ⟨v, he⟩ | he | he
  · have hc : gCt κ mX10_leastMeasure 9 [.ref (κ.2.1 + 0), .int a1] σ (rI v) (fLeast σ a1).2 1 := he ▸ ctX10_leastMeasure h.ci.dw h.cb.2.2.1
    refine ct_ofH (by decide +kernel) rfl (Nat.le_of_ble_eq_true rfl) rfl ?_
    refine go_aload_n (q := 1) (gDec iL_leastMeasure_ok 0 rfl) rfl rfl rfl ?_
    refine go_iconst (v := 0) (q := 2) (gDec iL_leastMeasure_ok 1 rfl) (by decide) rfl ?_
    refine go_aload_n (q := 3) (gDec iL_leastMeasure_ok 2 rfl) rfl rfl rfl ?_
    refine go_iload_n (q := 4) (gDec iL_leastMeasure_ok 3 rfl) rfl rfl rfl ?_
    refine go_callV (n2 := 1) (q := 7) kL_126 hc (gDec iL_leastMeasure_ok 4 rfl) rfl rfl (by decide) rfl rfl rfl (Nat.le_of_ble_eq_true rfl) rfl (gFit_rm (by decide) (by decide)) rfl ?_
    refine go_i2l (q := 8) (gDec iL_leastMeasure_ok 5 rfl) rfl ?_
    refine go_last (q := 9) (gDec iL_leastMeasure_ok 6 rfl) vp_00 rfl ?_
    refine go_goto (t := 18) (gDec iL_leastMeasure_ok 7 rfl) (by decide) ?_
    refine go_iconst (v := 0) (q := 19) (gDec iL_leastMeasure_ok 14 rfl) (by decide) rfl ?_
    exact go_ireturn (gDec iL_leastMeasure_ok 15 rfl) rfl rfl (by rw [he, xc_i]) (gOo_i he) (by decide)
  · have hc : gCt κ mX10_leastMeasure 9 [.ref (κ.2.1 + 0), .int a1] σ xIAE (fLeast σ a1).2 1 := he ▸ ctX10_leastMeasure h.ci.dw h.cb.2.2.1
    refine ct_ofH (by decide +kernel) rfl (Nat.le_of_ble_eq_true rfl) rfl ?_
    refine go_aload_n (q := 1) (gDec iL_leastMeasure_ok 0 rfl) rfl rfl rfl ?_
    refine go_iconst (v := 0) (q := 2) (gDec iL_leastMeasure_ok 1 rfl) (by decide) rfl ?_
    refine go_aload_n (q := 3) (gDec iL_leastMeasure_ok 2 rfl) rfl rfl rfl ?_
    refine go_iload_n (q := 4) (gDec iL_leastMeasure_ok 3 rfl) rfl rfl rfl ?_
    refine go_callV_c (n2 := 1) (t := 12) kL_126 hc (gDec iL_leastMeasure_ok 4 rfl) rfl rfl (by decide) rfl rfl rfl (Nat.le_of_ble_eq_true rfl) rfl (gFit_rm (by decide) (by decide)) (pre := []) (x := ⟨0, 9, 12, 13⟩) (suf := [⟨0, 9, 15, 37⟩]) rfl (fun _ h => absurd h List.not_mem_nil) rfl (by decide) wL_cA wL_kA rfl (fun q9 => ?_)
    refine go_astore_n (q := 13) (gDec iL_leastMeasure_ok 8 rfl) rfl (by decide) rfl ?_
    refine go_iconst (v := 1) (q := 14) (gDec iL_leastMeasure_ok 9 rfl) (by decide) rfl ?_
    exact go_ireturn (gDec iL_leastMeasure_ok 10 rfl) rfl rfl (by rw [he, xc_AN_A]) (gOo_x he) (by decide)
  · have hc : gCt κ mX10_leastMeasure 9 [.ref (κ.2.1 + 0), .int a1] σ xNSE (fLeast σ a1).2 1 := he ▸ ctX10_leastMeasure h.ci.dw h.cb.2.2.1
    refine ct_ofH (by decide +kernel) rfl (Nat.le_of_ble_eq_true rfl) rfl ?_
    refine go_aload_n (q := 1) (gDec iL_leastMeasure_ok 0 rfl) rfl rfl rfl ?_
    refine go_iconst (v := 0) (q := 2) (gDec iL_leastMeasure_ok 1 rfl) (by decide) rfl ?_
    refine go_aload_n (q := 3) (gDec iL_leastMeasure_ok 2 rfl) rfl rfl rfl ?_
    refine go_iload_n (q := 4) (gDec iL_leastMeasure_ok 3 rfl) rfl rfl rfl ?_
    refine go_callV_c (n2 := 1) (t := 15) kL_126 hc (gDec iL_leastMeasure_ok 4 rfl) rfl rfl (by decide) rfl rfl rfl (Nat.le_of_ble_eq_true rfl) rfl (gFit_rm (by decide) (by decide)) (pre := [⟨0, 9, 12, 13⟩]) (x := ⟨0, 9, 15, 37⟩) (suf := []) rfl (List.forall_mem_cons.mpr ⟨⟨by decide, _, wL_cA, List.mem_of_getElem? (i := 5) rfl⟩, (fun _ h => absurd h List.not_mem_nil)⟩) rfl (by decide) wL_cN wL_kN rfl (fun q9 => ?_)
    refine go_astore_n (q := 16) (gDec iL_leastMeasure_ok 11 rfl) rfl (by decide) rfl ?_
    refine go_iconst (v := 2) (q := 17) (gDec iL_leastMeasure_ok 12 rfl) (by decide) rfl ?_
    exact go_ireturn (gDec iL_leastMeasure_ok 13 rfl) rfl rfl (by rw [he, xc_AN_N]) (gOo_x he) (by decide)

def iL_meanAdvance : List (Nat × Instr × Nat) := [(0, .aload_n 1, 1), (1, .iconst 0, 1), (2, .aload_n 0, 1), (3, .invokevirtual 129, 3), (6, .dastore, 1), (7, .goto 6, 3), (10, .astore_n 2, 1), (11, .iconst 1, 1), (12, .ireturn, 1), (13, .iconst 0, 1), (14, .ireturn, 1)]
theorem iL_meanAdvance_ok : gDecs mL_meanAdvance iL_meanAdvance := by decide +kernel

theorem o_meanAdvance {σ : gST} : (∃ v, (fMean σ).1 = .inl (some (.double v))) ∨ (fMean σ).1 = xARI := by
  unfold fMean
  repeat' split
  all_goals first | exact Or.inl ⟨_, rfl⟩ | exact Or.inr (rfl)
set_option maxHeartbeats 4000000 in
set_option maxRecDepth 100000 in
theorem ctL_meanAdvance {κ : gK} {σ : gST} (h : gJ σ) : gCt κ mL_meanAdvance 10 [.ref (κ.2.1 + 0), .ref (κ.2.1 + 391)] σ (rI (xC kR (fMean σ).1)) (gOo (fMean σ)) 1 := by
  rcases o_meanAdvance (σ := σ) with ⟨v, he⟩ | he
  · have hc : gCt κ mX10_meanAdvance 9 [.ref (κ.2.1 + 0)] σ (.inl (some (.double v))) (fMean σ).2 1 := he ▸ ctX10_meanAdvance h.ci.dw (fun h0 => gMean_n h0 h.ci.dw.ng24)
    refine ct_ofH (by decide +kernel) rfl (Nat.le_of_ble_eq_true rfl) rfl ?_
    refine go_aload_n (q := 1) (gDec iL_meanAdvance_ok 0 rfl) rfl rfl rfl ?_
    refine go_iconst (v := 0) (q := 2) (gDec iL_meanAdvance_ok 1 rfl) (by decide) rfl ?_
    refine go_aload_n (q := 3) (gDec iL_meanAdvance_ok 2 rfl) rfl rfl rfl ?_
    refine go_callV (n2 := 1) (q := 6) kL_129 hc (gDec iL_meanAdvance_ok 3 rfl) rfl rfl (by decide) rfl rfl rfl (Nat.le_of_ble_eq_true rfl) rfl (gFit_rm (by decide) (by decide)) rfl ?_
    refine go_dast (q := 7) (gDec iL_meanAdvance_ok 4 rfl) vp_00 rfl ?_
    refine go_goto (t := 13) (gDec iL_meanAdvance_ok 5 rfl) (by decide) ?_
    refine go_iconst (v := 0) (q := 14) (gDec iL_meanAdvance_ok 9 rfl) (by decide) rfl ?_
    exact go_ireturn (gDec iL_meanAdvance_ok 10 rfl) rfl rfl (by rw [he, xc_d]) (gOo_d he) (by decide)
  · have hc : gCt κ mX10_meanAdvance 9 [.ref (κ.2.1 + 0)] σ xARI (fMean σ).2 1 := he ▸ ctX10_meanAdvance h.ci.dw (fun h0 => gMean_n h0 h.ci.dw.ng24)
    refine ct_ofH (by decide +kernel) rfl (Nat.le_of_ble_eq_true rfl) rfl ?_
    refine go_aload_n (q := 1) (gDec iL_meanAdvance_ok 0 rfl) rfl rfl rfl ?_
    refine go_iconst (v := 0) (q := 2) (gDec iL_meanAdvance_ok 1 rfl) (by decide) rfl ?_
    refine go_aload_n (q := 3) (gDec iL_meanAdvance_ok 2 rfl) rfl rfl rfl ?_
    refine go_callV_c (n2 := 1) (t := 10) kL_129 hc (gDec iL_meanAdvance_ok 3 rfl) rfl rfl (by decide) rfl rfl rfl (Nat.le_of_ble_eq_true rfl) rfl (gFit_rm (by decide) (by decide)) (pre := []) (x := ⟨0, 7, 10, 133⟩) (suf := []) rfl (fun _ h => absurd h List.not_mem_nil) rfl (by decide) wL_cR wL_kR rfl (fun q9 => ?_)
    refine go_astore_n (q := 11) (gDec iL_meanAdvance_ok 6 rfl) rfl (by decide) rfl ?_
    refine go_iconst (v := 1) (q := 12) (gDec iL_meanAdvance_ok 7 rfl) (by decide) rfl ?_
    exact go_ireturn (gDec iL_meanAdvance_ok 8 rfl) rfl rfl (by rw [he, xc_R_R]) (gOo_x he) (by decide)

def iL_account : List (Nat × Instr × Nat) := [(0, .aload_n 2, 1), (1, .iconst 0, 1), (2, .aload_n 0, 1), (3, .iload_n 1, 1), (4, .invokevirtual 135, 3), (7, .i2l, 1), (8, .lastore, 1), (9, .goto 6, 3), (12, .astore_n 3, 1), (13, .iconst 1, 1), (14, .ireturn, 1), (15, .iconst 0, 1), (16, .ireturn, 1)]
theorem iL_account_ok : gDecs mL_account iL_account := by decide +kernel

theorem o_account {σ : gST} {a1 : Int32} : (∃ v, (fAccount σ a1).1 = rI v) ∨ (fAccount σ a1).1 = xIAE := by
  unfold fAccount
  repeat' split
  all_goals first | exact Or.inl ⟨_, rfl⟩ | exact Or.inr (rfl)
set_option maxHeartbeats 4000000 in
set_option maxRecDepth 100000 in
theorem ctL_account {κ : gK} {σ : gST} {a1 : Int32} (h : gJ σ) : gCt κ mL_account 10 [.ref (κ.2.1 + 0), .int a1, .ref (κ.2.1 + 390)] σ (rI (xC kA (fAccount σ a1).1)) (gOo (fAccount σ a1)) 1 := by
  rcases o_account (σ := σ) (a1 := a1) with ⟨v, he⟩ | he
  · have hc : gCt κ mX10_account 9 [.ref (κ.2.1 + 0), .int a1] σ (rI v) (fAccount σ a1).2 1 := he ▸ ctX10_account h.ci.dw
    refine ct_ofH (by decide +kernel) rfl (Nat.le_of_ble_eq_true rfl) rfl ?_
    refine go_aload_n (q := 1) (gDec iL_account_ok 0 rfl) rfl rfl rfl ?_
    refine go_iconst (v := 0) (q := 2) (gDec iL_account_ok 1 rfl) (by decide) rfl ?_
    refine go_aload_n (q := 3) (gDec iL_account_ok 2 rfl) rfl rfl rfl ?_
    refine go_iload_n (q := 4) (gDec iL_account_ok 3 rfl) rfl rfl rfl ?_
    refine go_callV (n2 := 1) (q := 7) kL_135 hc (gDec iL_account_ok 4 rfl) rfl rfl (by decide) rfl rfl rfl (Nat.le_of_ble_eq_true rfl) rfl (gFit_rm (by decide) (by decide)) rfl ?_
    refine go_i2l (q := 8) (gDec iL_account_ok 5 rfl) rfl ?_
    refine go_last (q := 9) (gDec iL_account_ok 6 rfl) vp_00 rfl ?_
    refine go_goto (t := 15) (gDec iL_account_ok 7 rfl) (by decide) ?_
    refine go_iconst (v := 0) (q := 16) (gDec iL_account_ok 11 rfl) (by decide) rfl ?_
    exact go_ireturn (gDec iL_account_ok 12 rfl) rfl rfl (by rw [he, xc_i]) (gOo_i he) (by decide)
  · have hc : gCt κ mX10_account 9 [.ref (κ.2.1 + 0), .int a1] σ xIAE (fAccount σ a1).2 1 := he ▸ ctX10_account h.ci.dw
    refine ct_ofH (by decide +kernel) rfl (Nat.le_of_ble_eq_true rfl) rfl ?_
    refine go_aload_n (q := 1) (gDec iL_account_ok 0 rfl) rfl rfl rfl ?_
    refine go_iconst (v := 0) (q := 2) (gDec iL_account_ok 1 rfl) (by decide) rfl ?_
    refine go_aload_n (q := 3) (gDec iL_account_ok 2 rfl) rfl rfl rfl ?_
    refine go_iload_n (q := 4) (gDec iL_account_ok 3 rfl) rfl rfl rfl ?_
    refine go_callV_c (n2 := 1) (t := 12) kL_135 hc (gDec iL_account_ok 4 rfl) rfl rfl (by decide) rfl rfl rfl (Nat.le_of_ble_eq_true rfl) rfl (gFit_rm (by decide) (by decide)) (pre := []) (x := ⟨0, 9, 12, 13⟩) (suf := []) rfl (fun _ h => absurd h List.not_mem_nil) rfl (by decide) wL_cA wL_kA rfl (fun q9 => ?_)
    refine go_astore_n (q := 13) (gDec iL_account_ok 8 rfl) rfl (by decide) rfl ?_
    refine go_iconst (v := 1) (q := 14) (gDec iL_account_ok 9 rfl) (by decide) rfl ?_
    exact go_ireturn (gDec iL_account_ok 10 rfl) rfl rfl (by rw [he, xc_A_A]) (gOo_x he) (by decide)

def iL_readGlyph : List (Nat × Instr × Nat) := [(0, .aload_n 1, 1), (1, .iconst 0, 1), (2, .aload_n 0, 1), (3, .invokevirtual 138, 3), (6, .i2l, 1), (7, .lastore, 1), (8, .goto 9, 3), (11, .astore_n 2, 1), (12, .iconst 1, 1), (13, .ireturn, 1), (14, .astore_n 2, 1), (15, .iconst 2, 1), (16, .ireturn, 1), (17, .iconst 0, 1), (18, .ireturn, 1)]
theorem iL_readGlyph_ok : gDecs mL_readGlyph iL_readGlyph := by decide +kernel

theorem o_readGlyph {σ : gST} : (∃ v, (fRead σ).1 = rI v) ∨ (fRead σ).1 = xIAE ∨ (fRead σ).1 = xISE := by
  unfold fRead
  repeat' split
  all_goals first | exact Or.inl ⟨_, rfl⟩ | exact Or.inr (Or.inl rfl) | exact Or.inr (Or.inr (rfl))
set_option maxHeartbeats 4000000 in
set_option maxRecDepth 100000 in
theorem ctL_readGlyph {κ : gK} {σ : gST} (h : gJ σ) : gCt κ mL_readGlyph 10 [.ref (κ.2.1 + 0), .ref (κ.2.1 + 390)] σ (rI (xC kAS (fRead σ).1)) (gOo (fRead σ)) 1 := by
  rcases o_readGlyph (σ := σ) with ⟨v, he⟩ | he | he
  · have hc : gCt κ mX10_readGlyph 9 [.ref (κ.2.1 + 0)] σ (rI v) (fRead σ).2 1 := he ▸ ctX10_readGlyph h.ci.dw h.cb.1 h.cb.2.1 (gFr_R h.cb.2.1)
    refine ct_ofH (by decide +kernel) rfl (Nat.le_of_ble_eq_true rfl) rfl ?_
    refine go_aload_n (q := 1) (gDec iL_readGlyph_ok 0 rfl) rfl rfl rfl ?_
    refine go_iconst (v := 0) (q := 2) (gDec iL_readGlyph_ok 1 rfl) (by decide) rfl ?_
    refine go_aload_n (q := 3) (gDec iL_readGlyph_ok 2 rfl) rfl rfl rfl ?_
    refine go_callV (n2 := 1) (q := 6) kL_138 hc (gDec iL_readGlyph_ok 3 rfl) rfl rfl (by decide) rfl rfl rfl (Nat.le_of_ble_eq_true rfl) rfl (gFit_rm (by decide) (by decide)) rfl ?_
    refine go_i2l (q := 7) (gDec iL_readGlyph_ok 4 rfl) rfl ?_
    refine go_last (q := 8) (gDec iL_readGlyph_ok 5 rfl) vp_00 rfl ?_
    refine go_goto (t := 17) (gDec iL_readGlyph_ok 6 rfl) (by decide) ?_
    refine go_iconst (v := 0) (q := 18) (gDec iL_readGlyph_ok 13 rfl) (by decide) rfl ?_
    exact go_ireturn (gDec iL_readGlyph_ok 14 rfl) rfl rfl (by rw [he, xc_i]) (gOo_i he) (by decide)
  · have hc : gCt κ mX10_readGlyph 9 [.ref (κ.2.1 + 0)] σ xIAE (fRead σ).2 1 := he ▸ ctX10_readGlyph h.ci.dw h.cb.1 h.cb.2.1 (gFr_R h.cb.2.1)
    refine ct_ofH (by decide +kernel) rfl (Nat.le_of_ble_eq_true rfl) rfl ?_
    refine go_aload_n (q := 1) (gDec iL_readGlyph_ok 0 rfl) rfl rfl rfl ?_
    refine go_iconst (v := 0) (q := 2) (gDec iL_readGlyph_ok 1 rfl) (by decide) rfl ?_
    refine go_aload_n (q := 3) (gDec iL_readGlyph_ok 2 rfl) rfl rfl rfl ?_
    refine go_callV_c (n2 := 1) (t := 11) kL_138 hc (gDec iL_readGlyph_ok 3 rfl) rfl rfl (by decide) rfl rfl rfl (Nat.le_of_ble_eq_true rfl) rfl (gFit_rm (by decide) (by decide)) (pre := []) (x := ⟨0, 8, 11, 13⟩) (suf := [⟨0, 8, 14, 15⟩]) rfl (fun _ h => absurd h List.not_mem_nil) rfl (by decide) wL_cA wL_kA rfl (fun q9 => ?_)
    refine go_astore_n (q := 12) (gDec iL_readGlyph_ok 7 rfl) rfl (by decide) rfl ?_
    refine go_iconst (v := 1) (q := 13) (gDec iL_readGlyph_ok 8 rfl) (by decide) rfl ?_
    exact go_ireturn (gDec iL_readGlyph_ok 9 rfl) rfl rfl (by rw [he, xc_AS_A]) (gOo_x he) (by decide)
  · have hc : gCt κ mX10_readGlyph 9 [.ref (κ.2.1 + 0)] σ xISE (fRead σ).2 1 := he ▸ ctX10_readGlyph h.ci.dw h.cb.1 h.cb.2.1 (gFr_R h.cb.2.1)
    refine ct_ofH (by decide +kernel) rfl (Nat.le_of_ble_eq_true rfl) rfl ?_
    refine go_aload_n (q := 1) (gDec iL_readGlyph_ok 0 rfl) rfl rfl rfl ?_
    refine go_iconst (v := 0) (q := 2) (gDec iL_readGlyph_ok 1 rfl) (by decide) rfl ?_
    refine go_aload_n (q := 3) (gDec iL_readGlyph_ok 2 rfl) rfl rfl rfl ?_
    refine go_callV_c (n2 := 1) (t := 14) kL_138 hc (gDec iL_readGlyph_ok 3 rfl) rfl rfl (by decide) rfl rfl rfl (Nat.le_of_ble_eq_true rfl) rfl (gFit_rm (by decide) (by decide)) (pre := [⟨0, 8, 11, 13⟩]) (x := ⟨0, 8, 14, 15⟩) (suf := []) rfl (List.forall_mem_cons.mpr ⟨⟨by decide, _, wL_cA, List.mem_of_getElem? (i := 0) rfl⟩, (fun _ h => absurd h List.not_mem_nil)⟩) rfl (by decide) wL_cS wL_kS rfl (fun q9 => ?_)
    refine go_astore_n (q := 15) (gDec iL_readGlyph_ok 10 rfl) rfl (by decide) rfl ?_
    refine go_iconst (v := 2) (q := 16) (gDec iL_readGlyph_ok 11 rfl) (by decide) rfl ?_
    exact go_ireturn (gDec iL_readGlyph_ok 12 rfl) rfl rfl (by rw [he, xc_AS_S]) (gOo_x he) (by decide)

def iL_undo : List (Nat × Instr × Nat) := [(0, .aload_n 1, 1), (1, .iconst 0, 1), (2, .aload_n 0, 1), (3, .invokevirtual 141, 3), (6, .i2l, 1), (7, .lastore, 1), (8, .goto 6, 3), (11, .astore_n 2, 1), (12, .iconst 1, 1), (13, .ireturn, 1), (14, .iconst 0, 1), (15, .ireturn, 1)]
theorem iL_undo_ok : gDecs mL_undo iL_undo := by decide +kernel

theorem o_undo {σ : gST} : (∃ v, (fUndo σ).1 = rI v) ∨ (fUndo σ).1 = xISE := by
  unfold fUndo
  repeat' split
  all_goals first | exact Or.inl ⟨_, rfl⟩ | exact Or.inr (rfl)
set_option maxHeartbeats 4000000 in
set_option maxRecDepth 100000 in
theorem ctL_undo {κ : gK} {σ : gST} (h : gJ σ) : gCt κ mL_undo 10 [.ref (κ.2.1 + 0), .ref (κ.2.1 + 390)] σ (rI (xC kS (fUndo σ).1)) (gOo (fUndo σ)) 1 := by
  rcases o_undo (σ := σ) with ⟨v, he⟩ | he
  · have hc : gCt κ mX10_undo 9 [.ref (κ.2.1 + 0)] σ (rI v) (fUndo σ).2 1 := he ▸ ctX10_undo h.cb.1
    refine ct_ofH (by decide +kernel) rfl (Nat.le_of_ble_eq_true rfl) rfl ?_
    refine go_aload_n (q := 1) (gDec iL_undo_ok 0 rfl) rfl rfl rfl ?_
    refine go_iconst (v := 0) (q := 2) (gDec iL_undo_ok 1 rfl) (by decide) rfl ?_
    refine go_aload_n (q := 3) (gDec iL_undo_ok 2 rfl) rfl rfl rfl ?_
    refine go_callV (n2 := 1) (q := 6) kL_141 hc (gDec iL_undo_ok 3 rfl) rfl rfl (by decide) rfl rfl rfl (Nat.le_of_ble_eq_true rfl) rfl (gFit_rm (by decide) (by decide)) rfl ?_
    refine go_i2l (q := 7) (gDec iL_undo_ok 4 rfl) rfl ?_
    refine go_last (q := 8) (gDec iL_undo_ok 5 rfl) vp_00 rfl ?_
    refine go_goto (t := 14) (gDec iL_undo_ok 6 rfl) (by decide) ?_
    refine go_iconst (v := 0) (q := 15) (gDec iL_undo_ok 10 rfl) (by decide) rfl ?_
    exact go_ireturn (gDec iL_undo_ok 11 rfl) rfl rfl (by rw [he, xc_i]) (gOo_i he) (by decide)
  · have hc : gCt κ mX10_undo 9 [.ref (κ.2.1 + 0)] σ xISE (fUndo σ).2 1 := he ▸ ctX10_undo h.cb.1
    refine ct_ofH (by decide +kernel) rfl (Nat.le_of_ble_eq_true rfl) rfl ?_
    refine go_aload_n (q := 1) (gDec iL_undo_ok 0 rfl) rfl rfl rfl ?_
    refine go_iconst (v := 0) (q := 2) (gDec iL_undo_ok 1 rfl) (by decide) rfl ?_
    refine go_aload_n (q := 3) (gDec iL_undo_ok 2 rfl) rfl rfl rfl ?_
    refine go_callV_c (n2 := 1) (t := 11) kL_141 hc (gDec iL_undo_ok 3 rfl) rfl rfl (by decide) rfl rfl rfl (Nat.le_of_ble_eq_true rfl) rfl (gFit_rm (by decide) (by decide)) (pre := []) (x := ⟨0, 8, 11, 15⟩) (suf := []) rfl (fun _ h => absurd h List.not_mem_nil) rfl (by decide) wL_cS wL_kS rfl (fun q9 => ?_)
    refine go_astore_n (q := 12) (gDec iL_undo_ok 7 rfl) rfl (by decide) rfl ?_
    refine go_iconst (v := 1) (q := 13) (gDec iL_undo_ok 8 rfl) (by decide) rfl ?_
    exact go_ireturn (gDec iL_undo_ok 9 rfl) rfl rfl (by rw [he, xc_S_S]) (gOo_x he) (by decide)

def iL_restore : List (Nat × Instr × Nat) := [(0, .aload_n 0, 1), (1, .invokevirtual 144, 3), (4, .goto 6, 3), (7, .astore_n 1, 1), (8, .iconst 1, 1), (9, .ireturn, 1), (10, .iconst 0, 1), (11, .ireturn, 1)]
theorem iL_restore_ok : gDecs mL_restore iL_restore := by decide +kernel

theorem o_restore {σ : gST} : (fRestore σ).1 = .inl none ∨ (fRestore σ).1 = xISE := by
  unfold fRestore
  repeat' split
  all_goals first | exact Or.inl rfl | exact Or.inr (rfl)
set_option maxHeartbeats 4000000 in
set_option maxRecDepth 100000 in
theorem ctL_restore {κ : gK} {σ : gST} (h : gJ σ) : gCt κ mL_restore 10 [.ref (κ.2.1 + 0)] σ (rI (xC kS (fRestore σ).1)) (gOo (fRestore σ)) 1 := by
  rcases o_restore (σ := σ) with he | he
  · have hc : gCt κ mX10_restore 9 [.ref (κ.2.1 + 0)] σ (.inl none) (fRestore σ).2 1 := he ▸ ctX10_restore
    refine ct_ofH (by decide +kernel) rfl (Nat.le_of_ble_eq_true rfl) rfl ?_
    refine go_aload_n (q := 1) (gDec iL_restore_ok 0 rfl) rfl rfl rfl ?_
    refine go_callV (n2 := 1) (q := 4) kL_144 hc (gDec iL_restore_ok 1 rfl) rfl rfl (by decide) rfl rfl rfl (Nat.le_of_ble_eq_true rfl) rfl (gFit_rm (by decide) (by decide)) rfl ?_
    refine go_goto (t := 10) (gDec iL_restore_ok 2 rfl) (by decide) ?_
    refine go_iconst (v := 0) (q := 11) (gDec iL_restore_ok 6 rfl) (by decide) rfl ?_
    exact go_ireturn (gDec iL_restore_ok 7 rfl) rfl rfl (by rw [he, xc_n]) (gOo_n he) (by decide)
  · have hc : gCt κ mX10_restore 9 [.ref (κ.2.1 + 0)] σ xISE (fRestore σ).2 1 := he ▸ ctX10_restore
    refine ct_ofH (by decide +kernel) rfl (Nat.le_of_ble_eq_true rfl) rfl ?_
    refine go_aload_n (q := 1) (gDec iL_restore_ok 0 rfl) rfl rfl rfl ?_
    refine go_callV_c (n2 := 1) (t := 7) kL_144 hc (gDec iL_restore_ok 1 rfl) rfl rfl (by decide) rfl rfl rfl (Nat.le_of_ble_eq_true rfl) rfl (gFit_rm (by decide) (by decide)) (pre := []) (x := ⟨0, 4, 7, 15⟩) (suf := []) rfl (fun _ h => absurd h List.not_mem_nil) rfl (by decide) wL_cS wL_kS rfl (fun q9 => ?_)
    refine go_astore_n (q := 8) (gDec iL_restore_ok 3 rfl) rfl (by decide) rfl ?_
    refine go_iconst (v := 1) (q := 9) (gDec iL_restore_ok 4 rfl) (by decide) rfl ?_
    exact go_ireturn (gDec iL_restore_ok 5 rfl) rfl rfl (by rw [he, xc_S_S]) (gOo_x he) (by decide)
