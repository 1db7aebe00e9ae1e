/-! THE CLAIM OUT OF ONE WALK OF THE LAW'S BODY. Your part is whole_start (and what it stands on); all else here is the same for every law, but numbers. -/
def R_law : String := "TypeDesignerLaw"
def lw_P (b : Addr) (xs : List Int32) (args : Array Value) (s : State) : Prop := args = #[.ref b] ∧ s.IntsAt b xs ∧ xs.length ≤ 3072 ∧ (Jvm.Cond.and given_1 narrow_1).before args s = true
/-- what a walk over the start with the record d0 says of its end, said of the start itself -/
theorem lw_closed {s t : State} {o : Outcome} {d0 : Drawn} {L : List Loc} {k n : Nat} (hd0 : s.drawn.sameBut d0 lw_cs) (hv : ∃ v, o = .returned v) (hW : (s.setDrawn d0).WarmedH t.vm) (hs : (s.setDrawn d0).sameButNew ({ t with vm := s.vm } : State) L k n) : State.butDraws s t lw_cs (fun t1 => Framed s o t1 L k n) := by
  have h2 : t.drawn = d0 := congrArg State.drawn hs.1
  refine ⟨⟨hv, hW, State.sameButNew.setDrawn hs s.drawn⟩, ?_, by decide⟩
  rw [h2]
  exact hd0
def lw_Q (_ : Array Value) (s : State) (o : Outcome) (t : State) : Prop := o = .returned (some (.int 1)) ∧ State.butDraws s t lw_cs (fun t1 => Framed s o t1 [] 603072 7194730)
def lw_Z (below : List Frame) (a : Array Value) (s : State) : State → Prop := fun t => ∃ o, t.status = .running ∧ Ended t below o ∧ lw_Q a s o t
/-- the law's own end, with 1 on the stack, nothing written that was there before, its room as the claim has it; d0: the record of draws at this point (at the entry s.drawn: begin with 'refine W.base ?_' and 'have hd0 := Drawn.sameBut.refl s.drawn lw_cs') -/
theorem lw_ret {p : Program} {l : Launch} {e : Env} {s : State} {m : MethodId} {below : List Frame} {meth : Method} {c : Code} {b : Nat} {d0 : Drawn} (hd0 : s.drawn.sameBut d0 lw_cs) (hx : p.tables.exec = Jvm.exec) (hb : c.code = code) (hr : meth.sig.returnType = ret) (hlocks : meth.locks = false) {pc : Nat} {H : Heap} {ls : Array Slot} (hdg : decode code pc = .ok (.ireturn, 1)) : W p l e room_1 (s.setDrawn d0) m #[Value.ref b] below meth c H [] 603072 7194730 (lw_Z below #[Value.ref b] s) (F0 m pc ls [.int 1]) := by
  intro T hT X
  obtain ⟨fs, hret, hrun, hended, hW, hframe⟩ := X.leave (v := some (.int 1)) (hlocks := hlocks) (fun h => by rw [hr] at h; cases h)
  have hmeth' : T.vm.method? m = some meth := X.method'
  refine ⟨T.setFrames fs, ?_, .returned (some (.int 1)), hrun, hended, rfl, lw_closed hd0 ⟨_, rfl⟩ hW hframe⟩
  jvm_step X.here [X.here.top, hx, hb, hdg, hmeth', hr, ret, narrow_b1]
  (try refine ⟨rfl, ?_⟩); (try refine ⟨rfl, ?_⟩)
  first | (intro acts; rw [hret _ acts rfl rfl rfl]) | rw [hret _ _ rfl rfl rfl]
  exact Steps.refl _
/-- what holds at the law's entry: the machine, the code, the tables' words (any of lw_tbl by 'hts w (by decide +kernel)'), the script of L ints xs at the cell b, what the Statement gives of the start (any of its parts by flat_of_before) -/
def lw_At (p : Program) (s : State) (m : MethodId) (meth : Method) (c : Code) (b L : Nat) (xs : Nat → Int32) : Prop :=
  p.tables.exec = Jvm.exec ∧ c.code = code ∧ meth.sig.returnType = ret ∧ c.maxLocals = 9 ∧ s.vm.findClass R_law = some m.cls ∧ (∀ w ∈ lw_tbl, w.before #[Value.ref b] s = true) ∧ va_X b L xs s s.heap ∧ b < s.heap.size ∧ meth.locks = false ∧ (Jvm.Cond.and given_1 narrow_1).before #[Value.ref b] s = true
theorem wClRL_8 : gH (.classLink RL 8 RX10) := ⟨gI1 (List.mem_of_getElem? (i := 27) rfl), rfl⟩
theorem wInRX10 : gH (.instantiable RX10 8) := ⟨gI1 (List.mem_of_getElem? (i := 28) rfl), rfl⟩
theorem wIiRX10 : gH (.initialized RX10) := ⟨gI1 (List.mem_of_getElem? (i := 1) rfl), rfl⟩
theorem wDfX10 : ∀ j, j < 8 → defaultValue (tyX10 j) = vp_V [.null, .null, .null, .null, .null, .null, .int 0, .int 0] j := by decide +kernel
theorem wClRL_148 : gH (.classLink RL 148 RX11) := ⟨gI6 (List.mem_of_getElem? (i := 181) rfl), rfl⟩
theorem wInRX11 : gH (.instantiable RX11 25) := ⟨gI6 (List.mem_of_getElem? (i := 182) rfl), rfl⟩
theorem wIiRX11 : gH (.initialized RX11) := ⟨gI1 (List.mem_of_getElem? (i := 12) rfl), rfl⟩
theorem wDfX11 : ∀ j, j < 25 → defaultValue (tyX11 j) = vp_V [.null, .null, .int 0, .null, .int 0, .int 0, .null, .int 0, .null, .int 0, .null, .null, .null, .int 0, .null, .null, .null, .int 0, .int 0, .int 0, .int 0, .int 0, .null, .null, .int 0] j := by decide +kernel
theorem wIbX10 : gIB mX10_init 0 := ⟨rfl, ⟨gI1 (List.mem_of_getElem? (i := 30) rfl), rfl⟩, ⟨gI1 (List.mem_of_getElem? (i := 1) rfl), rfl⟩, ⟨gI1 (List.mem_of_getElem? (i := 31) rfl), rfl⟩, ⟨⟨by decide +kernel, by decide +kernel, by decide +kernel⟩, by decide⟩, rfl, rfl⟩
theorem wKiRL_147 : gIL RL 147 mX10_init 0 := ⟨⟨gI1 (List.mem_of_getElem? (i := 29) rfl), rfl⟩, wIbX10⟩
theorem wIbX11 : gIB mX11_init 0 := ⟨rfl, ⟨gI6 (List.mem_of_getElem? (i := 184) rfl), rfl⟩, ⟨gI1 (List.mem_of_getElem? (i := 12) rfl), rfl⟩, ⟨gI6 (List.mem_of_getElem? (i := 185) rfl), rfl⟩, ⟨⟨by decide +kernel, by decide +kernel, by decide +kernel⟩, by decide⟩, rfl, rfl⟩
theorem wKiRL_150 : gIL RL 150 mX11_init 0 := ⟨⟨gI6 (List.mem_of_getElem? (i := 183) rfl), rfl⟩, wIbX11⟩
theorem wAr_long : gH (.arrayClass .long) := ⟨gI8 (List.mem_of_getElem? (i := 148) rfl), rfl⟩
theorem wAr_double : gH (.arrayClass .double) := ⟨gI8 (List.mem_of_getElem? (i := 149) rfl), rfl⟩
theorem gB_lng (cA : ClassId) : vp_cell cA (1, .inr (.inl (fun j => if j = 0 then 0 else 0))) = arrV cA 1 (fun _ => .long 0) := by
  rw [vp_cell_l]
  congr 1
  funext j
  split <;> rfl
theorem gB_dbl (cA : ClassId) : vp_cell cA (1, .inr (.inr (.inr (.inl (fun j => if j = 0 then 0 else 0))))) = arrV cA 1 (fun _ => .double 0) := by
  rw [vp_cell_d]
  congr 1
  funext j
  split <;> rfl
/-- all is made: the walks go on over the pure world -/
theorem gb_go {κ : gK} {M : gM} {R : Room} {Z : gZ} {pc n : Nat} {L : gL} {st : List Value} {U : List va_E} {cs sl : Nat} (hU : U = gUf κ) (h1 : cs ≤ n) (h2 : sl ≤ 6 * n) (kk : Go κ M R Z pc L st gS0w n) : Gb κ M R Z pc L st U cs sl := by
  intro p e s m args below meth c H locs ls C hP hS hl hN
  have hP1 := hP.1
  rw [hU, gUf_W] at hP1
  exact W.widen h1 h2 (kk p e s m args below meth c H locs ls C hP1 hS hl)
set_option maxHeartbeats 4000000 in
set_option maxRecDepth 100000 in
theorem lw_begin {κ : gK} {hs : List (Nat × Nat × Nat × Nat)} {Z : gZ} (hL : κ.2.2.2.2.2.1 ≤ 3072) (hz : ∀ (σ : gST) (n : Nat) (L : gL), n ≤ 12000 → Go κ (mLw hs) room_1 Z 2948 L [] σ n) : Gb κ (mLw hs) room_1 Z 0 [(0, .ref κ.2.2.2.2.1)] [] [] 0 0 := by
  refine gb_new (q := 3) (o := 0) (ci := 10) (fs := [.null, .null, .null, .null, .null, .null, .int 0, .int 0]) rfl rfl gin10 gft10 wClRL_8 wInRX10 wIiRX10 wDfX10 (Nat.le_of_ble_eq_true rfl) (Nat.le_of_ble_eq_true rfl) (gDec (iLw0_0_ok hs) 0 rfl) rfl ?_
  refine gb_dup (q := 4) (gDec (iLw0_0_ok hs) 1 rfl) rfl rfl ?_
  refine gb_callI (q := 7) (cs2 := 376) (sl2 := 29723) wKiRL_147 (cb_X10 (κ := κ) (pre := []) (o := 0) rfl) (gDec (iLw0_0_ok hs) 2 rfl) rfl rfl (Nat.le_of_ble_eq_true rfl) rfl rfl ⟨Nat.le_of_ble_eq_true rfl, Nat.le_of_ble_eq_true rfl, Nat.le_of_ble_eq_true rfl, Nat.le_of_ble_eq_true rfl⟩ rfl ?_
  refine gb_astore_n (q := 8) (gDec (iLw0_0_ok hs) 3 rfl) rfl (Nat.le_of_ble_eq_true rfl) rfl ?_
  refine gb_new (q := 11) (o := 376) (ci := 11) (fs := [.null, .null, .int 0, .null, .int 0, .int 0, .null, .int 0, .null, .int 0, .null, .null, .null, .int 0, .null, .null, .null, .int 0, .int 0, .int 0, .int 0, .int 0, .null, .null, .int 0]) (by rw [List.nil_append, blkX10_len]) rfl gin11 gft11 wClRL_148 wInRX11 wIiRX11 wDfX11 (Nat.le_of_ble_eq_true rfl) (Nat.le_of_ble_eq_true rfl) (gDec (iLw0_0_ok hs) 4 rfl) rfl ?_
  refine gb_dup (q := 12) (gDec (iLw0_0_ok hs) 5 rfl) rfl rfl ?_
  refine gb_callI (q := 15) (cs2 := 390) (sl2 := 55303) wKiRL_150 (cb_X11 (κ := κ) (pre := ([] ++ blkX10 κ 0)) (o := 376) (by rw [List.nil_append, blkX10_len])) (gDec (iLw0_0_ok hs) 6 rfl) rfl rfl (Nat.le_of_ble_eq_true rfl) rfl rfl ⟨Nat.le_of_ble_eq_true rfl, Nat.le_of_ble_eq_true rfl, Nat.le_of_ble_eq_true rfl, Nat.le_of_ble_eq_true rfl⟩ rfl ?_
  refine gb_astore_n (q := 16) (gDec (iLw0_0_ok hs) 7 rfl) rfl (Nat.le_of_ble_eq_true rfl) rfl ?_
  refine gb_iconst (v := nI 1) (q := 17) (gDec (iLw0_0_ok hs) 8 rfl) (by decide) rfl ?_
  refine gb_newa (q := 19) (atype := .long) (o := 390) (t0 := 2) (n := 1) (ty := .long) (cA := κ.2.2.2.1 2) (a0 := (1, .inr (.inl (fun j => if j = 0 then 0 else 0)))) (by rw [List.length_append, List.nil_append, blkX10_len, blkX11_len]) wAr_long rfl rfl (fun C h => by cases h) (gB_lng _) (nI_pos (by decide)) (nI_clamp (by decide)) (Nat.le_of_ble_eq_true rfl) (Nat.le_of_ble_eq_true rfl) (Nat.le_of_ble_eq_true rfl) (gDec (iLw0_0_ok hs) 9 rfl) rfl ?_
  refine gb_astore_n (q := 20) (gDec (iLw0_0_ok hs) 10 rfl) rfl (Nat.le_of_ble_eq_true rfl) rfl ?_
  refine gb_iconst (v := nI 1) (q := 21) (gDec (iLw0_0_ok hs) 11 rfl) (by decide) rfl ?_
  refine gb_newa (q := 23) (atype := .double) (o := 391) (t0 := 3) (n := 1) (ty := .double) (cA := κ.2.2.2.1 3) (a0 := (1, .inr (.inr (.inr (.inl (fun j => if j = 0 then 0 else 0)))))) (by rw [List.length_append, List.length_append, List.nil_append, blkX10_len, blkX11_len]; rfl) wAr_double rfl rfl (fun C h => by cases h) (gB_dbl _) (nI_pos (by decide)) (nI_clamp (by decide)) (Nat.le_of_ble_eq_true rfl) (Nat.le_of_ble_eq_true rfl) (Nat.le_of_ble_eq_true rfl) (gDec (iLw0_0_ok hs) 12 rfl) rfl ?_
  refine gb_astore (q := 25) (gDec (iLw0_0_ok hs) 13 rfl) (Nat.le_of_ble_eq_true rfl) rfl ?_
  refine gb_sub (L' := [(0, .ref κ.2.2.2.2.1), (1, .ref (κ.2.1 + 0)), (2, .ref (κ.2.1 + 376)), (3, .ref (κ.2.1 + 390)), (4, .ref (κ.2.1 + 391))]) ⟨rfl, rfl, rfl, rfl, rfl, trivial⟩ ?_
  refine gb_go (n := 10000) rfl (Nat.le_of_ble_eq_true rfl) (Nat.le_of_ble_eq_true rfl) ?_
  refine go_iconst (v := nI 0) (q := 26) (gDec (iLw0_0_ok hs) 14 rfl) (by decide) rfl ?_
  refine go_istore (q := 28) (gDec (iLw0_0_ok hs) 15 rfl) (Nat.le_of_ble_eq_true rfl) rfl ?_
  refine go_sub (L' := [(0, .ref κ.2.2.2.2.1), (1, .ref (κ.2.1 + 0)), (2, .ref (κ.2.1 + 376)), (3, .ref (κ.2.1 + 390)), (4, .ref (κ.2.1 + 391)), (5, .int (nI 0))]) ⟨rfl, rfl, rfl, rfl, rfl, rfl, trivial⟩ ?_
  refine lw_loop (N := 12000) hL (fun d m q1 q2 => ⟨?_, ?_, ?_, ?_⟩) hz 600 0 10000 gS0w (by omega) (by omega) (by omega) gJ_0
  · show d + 1 ≤ 21; omega
  · show 64 * (d + 1) ≤ 10894; omega
  · show m ≤ 603072; omega
  · show 6 * m ≤ 7194730; omega
/-- the law's end, as the walks say it -/
def gZl (κ : gK) : gZ := fun below args s t => args = #[Value.ref κ.2.2.2.2.1] ∧ s.heap.size ≤ κ.2.1 → lw_Z below #[Value.ref κ.2.2.2.2.1] s t
theorem lw_end {κ : gK} {hs : List (Nat × Nat × Nat × Nat)} {L : gL} {σ : gST} {n : Nat} (hn : n ≤ 12000) : Go κ (mLw hs) room_1 (gZl κ) 2948 L [] σ n := by
  refine go_iconst (v := 1) (q := 2949) (gDec (iLw4_6_ok hs) 0 rfl) (by decide) rfl ?_
  intro p e s m args below meth c H locs ls C hP hS hl
  by_cases h9 : args = #[Value.ref κ.2.2.2.2.1] ∧ s.heap.size ≤ κ.2.1
  · obtain ⟨ha, hz⟩ := h9
    subst ha
    have k := W.base (lw_ret (l := κ.1) (e := e) (s := s) (m := m) (below := below) (meth := meth) (c := c) (b := κ.2.2.2.2.1) (d0 := s.drawn) (Drawn.sameBut.refl s.drawn lw_cs) C.1 C.2.1 C.2.2.1 C.2.2.2.2.2.1 (pc := 2949) (H := H) (ls := ls) (gDec (iLw4_6_ok hs) 1 rfl))
    have k2 := W.widen (k := 603072) (n := 7194730) (by omega) (by omega) (va_forget (locs := locs) (fun q hq => Nat.le_trans hz (hS.2.2 q hq)) k) (cells := n) (slots := 6 * n)
    intro T hT X
    obtain ⟨t, a1, b1⟩ := k2 T hT X
    exact ⟨t, a1, fun _ => b1⟩
  · intro T hT X
    exact ⟨_, Steps.refl _, fun h => absurd h h9⟩
/-- YOUR PART: from the entry, for every script of at most 3072 ints, the law comes to its end with true ('hflags': the launch's flags, for a law that throws: no stack traces) -/
theorem whole_start {p : Program} {e : Env} {s : State} {m : MethodId} {below : List Frame} {meth : Method} {c : Code} (l : Launch) (hflags : l.flags = flags0) {b L : Nat} {xs : Nat → Int32} (hL : L ≤ 3072) (C0 : lw_At p s m meth c b L xs) : W p l e room_1 s m #[Value.ref b] below meth c s.heap [] 0 0 (lw_Z below #[Value.ref b] s) (entryFrame m ([Value.ref b] : List Value).toArray 9) := by
  obtain ⟨hx, hb, hr, hml, hown, hts, hX, hbl, hlocks, hgv⟩ := id C0
  obtain ⟨D, f, hG⟩ := gG_0 hts hgv hflags hX hbl
  obtain ⟨hs, htab⟩ : ∃ hs, c.exceptionTable.toList = tableOf hs := by
    refine ⟨c.exceptionTable.toList.map (fun x => (x.1, x.2, x.3, x.4)), ?_⟩
    unfold tableOf
    rw [List.map_map]
    exact ((List.map_congr_left (fun x _ => rfl)).trans (List.map_id _)).symm
  have hl := lv_entry ([.ref b]) (n := 9) (Nat.le_of_ble_eq_true rfl)
  rw [lg_entry_eq]
  have k := lw_begin (κ := (l, s.heap.size, D, f, b, L, xs)) (hs := hs) (Z := gZl (l, s.heap.size, D, f, b, L, xs)) hL (fun σ n L hn => lw_end hn) p e s m #[Value.ref b] below meth c s.heap [] _ ⟨hx, hb, hr, hml, hown, hlocks, htab, hG⟩ ⟨fun k q h => (by cases k <;> cases h), rfl⟩ va_S.rf hl ⟨fun h => absurd (show "law" = "<init>" from h) (by decide), va_AO.of (hts _ (gI1 (List.mem_of_getElem? (i := 175) rfl)))⟩
  intro T hT X
  obtain ⟨t, a1, b1⟩ := k T hT X
  exact ⟨t, a1, b1 ⟨rfl, Nat.le_refl _⟩⟩
set_option maxHeartbeats 4000000 in
theorem lw_walk (l : Launch) (hflags : l.flags = flags0) (b : Addr) (xs : List Int32) : MetFree l x (headSpec (Jvm.Cond.code x code maxLocals ret :: tables_1) room_1) (lw_P b xs) (fun _ _ _ _ _ => True) lw_Q := by
  refine MetFree.of_bodyS (code := code) (maxLocals := maxLocals) (ret := ret) (by decide) ?_ ?_
  · intro args s m h hn
    obtain ⟨meth, c, h1, h2, h3, h4, h5, h6, -, -⟩ := Cond.code_spec hn (atoms_spec (ws := Jvm.Cond.code x code maxLocals ret :: tables_1) h _ List.mem_cons_self)
    exact ⟨meth, c, h1, h2, h3, h4, h5, h6⟩
  · intro p e s m args below meth c s₁ B hml0 hP _
    obtain ⟨rfl, hx, hbd, hgv⟩ := hP
    obtain ⟨scr, harrAt, hlist, hof, hsmall⟩ := hx
    obtain ⟨hcb, hkn, -, -⟩ := State.arrayAt?_spec harrAt
    have hown : s.vm.findClass R_law = some m.cls := findClass_of_methodNamed B.named
    have hts0 : ∀ c ∈ (Jvm.Cond.code x code maxLocals ret :: tables_1), c.before #[Value.ref b] s = true := atoms_spec (ws := Jvm.Cond.code x code maxLocals ret :: tables_1) B.pre
    have hts : ∀ w ∈ lw_tbl, w.before #[Value.ref b] s = true := k2_hts_sels lw_privs (fun w hw => hts0 w (List.mem_cons_of_mem _ hw)) lw_privs_ok
    have hml : c.maxLocals = 9 := B.maxLocals_eq (hts0 _ List.mem_cons_self)
    have X₀ : Stand p l e room_1 s m #[Value.ref b] below meth c s₁ [] 0 0 := Stand.of_body B
    have hh0 : s₁.heap = s.heap := by rw [B.state]; rfl
    have hsz : scr.slots.size = xs.length := by rw [← Array.length_toList, hlist, List.length_map]
    have hval : ∀ j : Nat, j < xs.length → scr.slots[j]? = some (.int (xs.getD j 0)) := fun j hj => by
      rw [← Array.getElem?_toList, hlist]
      simp [hj]
    have hbl : b < s.heap.size := (Array.getElem?_eq_some_iff.mp hcb).1
    have hX : va_X b xs.length (fun j => xs.getD j 0) s s.heap := ⟨scr, hcb, hof, hkn, hsz, hval⟩
    have K : W p l e room_1 s m #[Value.ref b] below meth c s₁.heap [] 0 0 (lw_Z below #[Value.ref b] s) (entryFrame m ([Value.ref b] : List Value).toArray 9) := by
      rw [hh0]
      exact whole_start l hflags hbd ⟨B.exec, B.bytes, B.returns, hml, hown, hts, hX, hbl, B.notSynchronized, hgv⟩
    obtain ⟨t, a1, o, b1, b2, b3⟩ := K s₁ rfl X₀
    exact ⟨t, o, a1, b1, b2, b3⟩
theorem lw_pre_spec {args : Array Value} {s : State} (h : (Jvm.Cond.and given_1 narrow_1).before args s = true) (hr : rest_1_c.before args s = true) : ∃ (b : Addr) (xs : List Int32), lw_P b xs args s := by
  have hs := flat_of_before _ h
  have hq := flat_of_before _ hr
  have hc : (Cond.count 1).before args s = true := hs _ (by decide +kernel)
  have harr : (Cond.arrayOf (.arg 0) .int).before args s = true := hs _ (by decide +kernel)
  have hle : (Cond.le (.length (.arg 0)) (.int 3072)).before args s = true := hs _ (by decide +kernel)
  have hlen : (Cond.isInt (.length (.arg 0))).before args s = true := hq _ (by decide +kernel)
  have hall : (Cond.all (.arg 0) (.isInt (.elem (.arg 0) (.index 0)))).before args s = true := hq _ (by decide +kernel)
  obtain ⟨b, xs, hb, hx⟩ := State.ints_of_pre rfl harr hlen hall
  have hsm : xs.length < 2 ^ 31 := hx.choose_spec.2.2.2
  have hev : (Term.length (.arg 0)).eval args s none [] s = some (.int xs.length.toInt32) := hx.length_eval hb
  have hv := Cond.le_ints hev (show (Term.int 3072).eval args s none [] s = some (.int 3072) from rfl)
  have hd : xs.length.toInt32 ≤ 3072 := by
    simpa [Cond.before, Cond.holds, hv] using hle
  have hN : xs.length ≤ 3072 := (Int32.ofNat_le_ofNat hsm (by decide)).mp (show Int32.ofNat xs.length ≤ Int32.ofNat 3072 from hd)
  exact ⟨b, xs, Cond.one_arg hc (show args[0]? = some (.ref b) from hb), hx, hN, h⟩
theorem lw_comes (l : Launch) (hflags : l.flags = flags0) : Comes l x (Jvm.Cond.code x code maxLocals ret :: tables_1) room_1 (fun tb e args s => Calls_1 tb e args s ∧ rest_1 tb e args s ∧ Pre_1 tb e args s)
    (fun _ _ args s o t => lw_Q args s o t) := by
  intro p e ha hc hk s m args below hf hfit hheap happ hpre
  obtain ⟨b, xs, hP⟩ := lw_pre_spec hpre.2.2 hpre.2.1
  obtain ⟨k, o, h1, h2, h3, hQ⟩ := lw_walk l hflags b xs p e ha hc hk s m args below hf ((Spec.applies_iff_loose hf).mp happ).1 hP trivial
  exact ⟨k, o, h1, h2, h3, hQ⟩
theorem lw_frame {s t : State} {o : Outcome} {args : Array Value} (h : State.butDraws s t lw_cs (fun t1 => Framed s o t1 [] 603072 7194730)) :
    State.butDraws s t [Jvm.Choice.named "NaN.bits"] (fun t1 => Framed s o t1 (fieldLocs frame_1_writes args s ++ arrayLocs frame_1_arrays args s ++ staticLocs frame_1_statics s) 603072 7194730) := h
theorem lw_limb (L : Cond) (hL : ∀ (args : Array Value) (s t : State), L.after args s (.returned (some (.int 1))) t = true) :
    ArmFor flags0 classFile x code maxLocals ret World_1 tables_1 room_1 Calls_1 rest_1 Pre_1
      (fun tb e a s o t => postC L tb e a s o t ∧ State.butDraws s t [Jvm.Choice.named "NaN.bits"] (fun t1 => Framed s o t1 (fieldLocs frame_1_writes a s ++ arrayLocs frame_1_arrays a s ++ staticLocs frame_1_statics s) 603072 7194730)) := by
  intro l hflags _ _ p e ha hc hk s m args below hf hfit hheap happ hpre
  obtain ⟨k, o, h1, h2, h3, rfl, hF⟩ := lw_comes l hflags p e ha hc hk s m args below hf hfit hheap happ hpre
  exact ⟨k, _, h1, h2, h3, hL args s _, lw_frame hF⟩
theorem i_vc : Claimed_1_1 ∧ Claimed_1_2 := ⟨lw_limb limb_1_1 (fun args s t => by simp [limb_1_1, Cond.after, Cond.holds, Cond.value]), lw_limb limb_1_2 (fun args s t => Cond.after_iff.mpr (by
  first | (rw [show limb_1_2 = Cond.eq .result (.int 1) from rfl, Cond.eq_ints (x := 1) (y := 1) rfl rfl]; simp; done) | (simp [limb_1_2, Cond.value, Term.eval]; done)))⟩
