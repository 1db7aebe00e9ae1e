/-! the constructors: objects come one behind another, from the address b on -/
def gWb : Nat → List va_E → va_W
  | _, [] => []
  | b, e :: t => (b, e) :: gWb (b + 1) t
theorem gWb_at : ∀ (U : List va_E) (b k : Nat), (gWb b U)[k]? = U[k]?.map (fun e => (b + k, e))
  | [], _, k => by cases k <;> rfl
  | e :: t, b, 0 => rfl
  | e :: t, b, k + 1 => by
    show (gWb (b + 1) t)[k]? = (t[k]?).map _
    rw [gWb_at t (b + 1) k, show b + 1 + k = b + (k + 1) by omega]
theorem gWb_app : ∀ (U : List va_E) (b : Nat) (e : va_E), gWb b (U ++ [e]) = gWb b U ++ [(b + U.length, e)]
  | [], _, _ => rfl
  | x :: t, b, e => by
    show (b, x) :: gWb (b + 1) (t ++ [e]) = (b, x) :: (gWb (b + 1) t ++ [(b + (t.length + 1), e)])
    rw [gWb_app t (b + 1) e, show b + 1 + t.length = b + (t.length + 1) by omega]
theorem gWb_set : ∀ (U : List va_E) (b k : Nat) (e : va_E), (gWb b U).set k (b + k, e) = gWb b (U.set k e)
  | [], _, _, _ => rfl
  | x :: t, b, 0, e => rfl
  | x :: t, b, k + 1, e => by
    show (b, x) :: (gWb (b + 1) t).set k (b + (k + 1), e) = (b, x) :: gWb (b + 1) (t.set k e)
    rw [← gWb_set t (b + 1) k e, show b + 1 + k = b + (k + 1) by omega]
theorem gWb_get {U : List va_E} {b k : Nat} {e : va_E} (h : U[k]? = some e) : (gWb b U)[k]? = some (b + k, e) := by rw [gWb_at, h]; rfl
theorem gWb_of {U : List va_E} {b k : Nat} {q : Nat × va_E} (h : (gWb b U)[k]? = some q) : ∃ e, U[k]? = some e ∧ q = (b + k, e) := by
  rw [gWb_at] at h
  cases hU : U[k]? with
  | none => rw [hU] at h; cases h
  | some e => rw [hU] at h; exact ⟨e, rfl, (Option.some.inj h).symm⟩
theorem gWb_D (κ : gK) (U : List va_E) : va_D (gA κ) (gWb κ.2.1 U) := by
  refine ⟨fun i j p q hi hj hpq => ?_, fun k q hk => ?_⟩
  · obtain ⟨_, _, rfl⟩ := gWb_of hi
    obtain ⟨_, _, rfl⟩ := gWb_of hj
    exact Nat.add_left_cancel hpq
  · obtain ⟨_, _, rfl⟩ := gWb_of hk
    exact Nat.le_add_right _ _
/-- just these objects are there, and the next comes behind them -/
def gBx (κ : gK) (U : List va_E) (H : Heap) : Prop := va_P κ.2.2.1 gCl (gWb κ.2.1 U) H ∧ H.size = κ.2.1 + U.length
/-- the walk while objects are made -/
def Gb (κ : gK) (M : gM) (R : Room) (Z : gZ) (pc : Nat) (L : gL) (st : List Value) (U : List va_E) (cs sl : Nat) : Prop :=
  ∀ (p : Program) (e : Env) (s : State) (m : MethodId) (args : Array Value) (below : List Frame) (meth : Method) (c : Code) (H : Heap) (locs : List Loc) (ls : Array Slot),
    gCx κ M p s m meth c → gBx κ U H → va_S (gA κ) s.heap H locs → lv_has ls M.2.2.1 L → ((M.1.name = "<init>" → meth.name = "<init>") ∧ va_AO RX1 s) →
    W p κ.1 e R s m args below meth c H locs cs sl (Z below args s) (F0 m pc ls st)
def gRb (d kc ks : Nat) : Room := { frames := d, cells := kc, slots := ks, locals := 64 * d }
def gCpre (κ : gK) (As : List Value) (U : List va_E) : Array Value → State → Prop := va_Pc As (fun V => (gG κ V ∧ va_AO RX1 V) ∧ gBx κ U V.heap)
def gCpost (κ : gK) (U : List va_E) : Array Value → State → Outcome → State → Prop := fun _ st oc t => oc = .returned none ∧ gBx κ U t.heap ∧ va_F (gA κ) st t
/-- a constructor's contract: kc objects and arrays made, of ks slots -/
def gCb (κ : gK) (M : gM) (d : Nat) (As : List Value) (U U' : List va_E) (kc ks : Nat) : Prop := Met κ.1 M.1 (gWs M) (gRb d kc ks) (gCpre κ As U) (gCpost κ U') kc ks (gA κ)
theorem gCpre_blind (κ : gK) (As : List Value) (U : List va_E) : FrameBlind (gCpre κ As U) := by
  intro a V g mk ⟨h1, h2, h3⟩
  exact ⟨h1, ⟨h2.1.moved (U := V.calling g mk a) (State.WarmedH.refl V) (fun _ _ _ => rfl), va_AO.moved (U := V.calling g mk a) (State.WarmedH.refl V).alike h2.2⟩, h3⟩
def gZb (κ : gK) (U' : List va_E) (kc ks : Nat) : gZ := fun below args s => MQ below (gCpost κ U') args s kc ks (gA κ)
theorem cb_of {κ : gK} {M : gM} {d : Nat} {As : List Value} {U U' : List va_E} {kc ks : Nat} {L : gL} (hy : plainName M.1.cls = true) (hh : M.2.2.2.2 = []) (hn : (lg_sl As).length ≤ M.2.2.1) (hL : lv_args 0 As = L)
    (body : Gb κ M (gRb d kc ks) (gZb κ U' kc ks) 0 L [] U 0 0) : gCb κ M d As U U' kc ks := by
  subst hL
  obtain ⟨y, cc, maxL, ret, hs⟩ := M
  dsimp only at hh hn hy
  subst hh
  refine Met.ofW (cc := cc) (maxL := maxL) (ret := ret) (ws' := gTg) hy rfl ?_
  intro p e s m args below meth c s₁ B hml hv
  obtain ⟨rfl, ⟨hG, hAO⟩, hP⟩ := hv
  have hown : s.vm.findClass y.cls = some m.cls := findClass_of_methodNamed B.named
  have hin : meth.name = y.name := (name_of_methodNamed B.named B.method).1
  have htb : c.exceptionTable.toList = tableOf [] := by
    obtain ⟨meth9, c9, h1, h2, -, -, -, -, h7, -⟩ := Cond.code_spec B.named (atoms_spec (ws := gWs (y, cc, maxL, ret, [])) B.pre _ List.mem_cons_self)
    cases Option.some.inj (h1.symm.trans B.method)
    cases Option.some.inj (h2.symm.trans (Stand.of_body B).code)
    rw [Array.isEmpty_iff.mp h7]
    rfl
  rw [lg_entry_eq]
  exact body p e s m As.toArray below meth c s.heap [] _ ⟨B.exec, B.bytes, B.returns, hml, hown, B.notSynchronized, htb, hG⟩ hP va_S.rf (lv_entry As hn) ⟨fun h => hin.trans h, hAO⟩
section GB
variable {κ : gK} {M : gM} {R : Room} {Z : gZ} {pc q : Nat} {L : gL} {st : List Value} {U : List va_E} {cs sl : Nat}
theorem gb_aload_n {z : Fin 4} {i : Nat} {x : Nat} (hd : decode M.2.1 pc = .ok (.aload_n z, 1)) (hi : (z : Nat) = i) (hx : gAt L i = some (.ref x)) (hq : pc + 1 = q) (kk : Gb κ M R Z q L (.ref x :: st) U cs sl) : Gb κ M R Z pc L (st) U cs sl := by
  subst hq
  intro p e s m args below meth c H locs ls C hP hS hl hN
  exact lv_aload_n C.1 C.2.1 hd hi (gAt_has hl hx) (kk p e s m args below meth c H locs ls C hP hS hl hN)
theorem gb_iload_n {z : Fin 4} {i : Nat} {x : Int32} (hd : decode M.2.1 pc = .ok (.iload_n z, 1)) (hi : (z : Nat) = i) (hx : gAt L i = some (.int x)) (hq : pc + 1 = q) (kk : Gb κ M R Z q L (.int x :: st) U cs sl) : Gb κ M R Z pc L (st) U cs sl := by
  subst hq
  intro p e s m args below meth c H locs ls C hP hS hl hN
  exact lv_iload_n C.1 C.2.1 hd hi (gAt_has hl hx) (kk p e s m args below meth c H locs ls C hP hS hl hN)
theorem gb_iload {i : Nat} {x : Int32} (hd : decode M.2.1 pc = .ok (.iload i, 2)) (hx : gAt L i = some (.int x)) (hq : pc + 2 = q) (kk : Gb κ M R Z q L (.int x :: st) U cs sl) : Gb κ M R Z pc L (st) U cs sl := by
  subst hq
  intro p e s m args below meth c H locs ls C hP hS hl hN
  exact lv_iload C.1 C.2.1 hd (gAt_has hl hx) (kk p e s m args below meth c H locs ls C hP hS hl hN)
theorem gb_iconst {z : Int} {v : Int32} (hd : decode M.2.1 pc = .ok (.iconst z, 1)) (hv : Int32.ofInt z = v) (hq : pc + 1 = q) (kk : Gb κ M R Z q L (.int v :: st) U cs sl) : Gb κ M R Z pc L (st) U cs sl := by
  subst hq
  intro p e s m args below meth c H locs ls C hP hS hl hN
  exact lv_iconst C.1 C.2.1 hd hv (kk p e s m args below meth c H locs ls C hP hS hl hN)
theorem gb_bipush {z : Int} {v : Int32} (hd : decode M.2.1 pc = .ok (.bipush z, 2)) (hv : (Int8.ofInt z).toInt32 = v) (hq : pc + 2 = q) (kk : Gb κ M R Z q L (.int v :: st) U cs sl) : Gb κ M R Z pc L (st) U cs sl := by
  subst hq
  intro p e s m args below meth c H locs ls C hP hS hl hN
  exact lv_bipush C.1 C.2.1 hd hv (kk p e s m args below meth c H locs ls C hP hS hl hN)
theorem gb_sipush {z : Int} {v : Int32} (hd : decode M.2.1 pc = .ok (.sipush z, 3)) (hv : (Int16.ofInt z).toInt32 = v) (hq : pc + 3 = q) (kk : Gb κ M R Z q L (.int v :: st) U cs sl) : Gb κ M R Z pc L (st) U cs sl := by
  subst hq
  intro p e s m args below meth c H locs ls C hP hS hl hN
  exact lv_sipush C.1 C.2.1 hd hv (kk p e s m args below meth c H locs ls C hP hS hl hN)
theorem gb_dup {v : Value} (hd : decode M.2.1 pc = .ok (.dup, 1)) (hv : v.category = 1) (hq : pc + 1 = q) (kk : Gb κ M R Z q L (v :: v :: st) U cs sl) : Gb κ M R Z pc L (v :: st) U cs sl := by
  subst hq
  intro p e s m args below meth c H locs ls C hP hS hl hN
  exact lv_dup C.1 C.2.1 hd hv (kk p e s m args below meth c H locs ls C hP hS hl hN)
theorem gb_goto {off : Int} {t : Nat} (hd : decode M.2.1 pc = .ok (.goto off, 3)) (ht : (pc : Int) + off = (t : Int)) (kk : Gb κ M R Z t L st U cs sl) : Gb κ M R Z pc L st U cs sl := by
  intro p e s m args below meth c H locs ls C hP hS hl hN
  exact lv_goto C.1 C.2.1 hd ht (kk p e s m args below meth c H locs ls C hP hS hl hN)
theorem gb_if_le {x : Int32} {off : Int} {t : Nat} (hd : decode M.2.1 pc = .ok (.ifCond .le off, 3)) (ht : (pc : Int) + off = (t : Int)) (hq : pc + 3 = q) (kt : x ≤ 0 → Gb κ M R Z t L st U cs sl) (kf : ¬ (x ≤ 0) → Gb κ M R Z q L st U cs sl) : Gb κ M R Z pc L (.int x :: st) U cs sl := by
  subst hq
  intro p e s m args below meth c H locs ls C hP hS hl hN
  exact lv_if_le C.1 C.2.1 hd ht (fun h => kt h p e s m args below meth c H locs ls C hP hS hl hN) (fun h => kf h p e s m args below meth c H locs ls C hP hS hl hN)
theorem gb_icmp_ge {x y : Int32} {off : Int} {t : Nat} (hd : decode M.2.1 pc = .ok (.if_icmp .ge off, 3)) (ht : (pc : Int) + off = (t : Int)) (hq : pc + 3 = q) (kt : y ≤ x → Gb κ M R Z t L st U cs sl) (kf : ¬ (y ≤ x) → Gb κ M R Z q L st U cs sl) : Gb κ M R Z pc L (.int y :: .int x :: st) U cs sl := by
  subst hq
  intro p e s m args below meth c H locs ls C hP hS hl hN
  exact lv_icmp_ge C.1 C.2.1 hd ht (fun h => kt h p e s m args below meth c H locs ls C hP hS hl hN) (fun h => kf h p e s m args below meth c H locs ls C hP hS hl hN)
theorem gb_iinc {i : Nat} {z : Int} {x v : Int32} (hd : decode M.2.1 pc = .ok (.iinc i z, 3)) (hx : gAt L i = some (.int x)) (hv : x + Int32.ofInt z = v) (hn : i < M.2.2.1) (hq : pc + 3 = q) (kk : Gb κ M R Z q (gS1 i (.int v) L) st U cs sl) : Gb κ M R Z pc L st U cs sl := by
  subst hq
  intro p e s m args below meth c H locs ls C hP hS hl hN
  obtain ⟨k, hk⟩ := List.getElem?_of_mem (gAt_mem hx)
  exact lv_iinc C.1 C.2.1 hd hl hk hv hn rfl (fun ls' hl' => kk p e s m args below meth c H locs ls' C hP hS hl' hN)
theorem gb_istore_n {z : Fin 4} {i : Nat} {x : Int32} (hd : decode M.2.1 pc = .ok (.istore_n z, 1)) (hi : (z : Nat) = i) (hn : i < M.2.2.1) (hq : pc + 1 = q) (kk : Gb κ M R Z q (gS1 i (.int x) L) st U cs sl) : Gb κ M R Z pc L (.int x :: st) U cs sl := by
  subst hq
  intro p e s m args below meth c H locs ls C hP hS hl hN
  exact lv_istore_n C.1 C.2.1 hd hi hl hn rfl (fun ls' hl' => kk p e s m args below meth c H locs ls' C hP hS hl' hN)
theorem gb_istore {i : Nat} {x : Int32} (hd : decode M.2.1 pc = .ok (.istore i, 2)) (hn : i < M.2.2.1) (hq : pc + 2 = q) (kk : Gb κ M R Z q (gS1 i (.int x) L) st U cs sl) : Gb κ M R Z pc L (.int x :: st) U cs sl := by
  subst hq
  intro p e s m args below meth c H locs ls C hP hS hl hN
  exact lv_istore C.1 C.2.1 hd hl hn rfl (fun ls' hl' => kk p e s m args below meth c H locs ls' C hP hS hl' hN)
theorem gb_sub {L' : gL} (h : gSub L L') (kk : Gb κ M R Z pc L' st U cs sl) : Gb κ M R Z pc L st U cs sl := by
  intro p e s m args below meth c H locs ls C hP hS hl hN
  exact kk p e s m args below meth c H locs ls C hP hS (gSub_has hl h) hN
theorem gb_top {v v' : Int32} (h : v = v') (kk : Gb κ M R Z pc L (.int v' :: st) U cs sl) : Gb κ M R Z pc L (.int v :: st) U cs sl := h ▸ kk
theorem gb_astore_n {z : Fin 4} {i : Nat} {x : Nat} (hd : decode M.2.1 pc = .ok (.astore_n z, 1)) (hi : (z : Nat) = i) (hn : i < M.2.2.1) (hq : pc + 1 = q) (kk : Gb κ M R Z q (gS1 i (.ref x) L) st U cs sl) : Gb κ M R Z pc L (.ref x :: st) U cs sl := by
  subst hq
  intro p e s m args below meth c H locs ls C hP hS hl hN
  exact lv_astore_n C.1 C.2.1 hd hi hl hn rfl (fun ls' hl' => kk p e s m args below meth c H locs ls' C hP hS hl' hN)
theorem gb_astore {i : Nat} {x : Nat} (hd : decode M.2.1 pc = .ok (.astore i, 2)) (hn : i < M.2.2.1) (hq : pc + 2 = q) (kk : Gb κ M R Z q (gS1 i (.ref x) L) st U cs sl) : Gb κ M R Z pc L (.ref x :: st) U cs sl := by
  subst hq
  intro p e s m args below meth c H locs ls C hP hS hl hN
  exact lv_astore C.1 C.2.1 hd hl hn rfl (fun ls' hl' => kk p e s m args below meth c H locs ls' C hP hS hl' hN)
theorem gb_w {U' : List va_E} (h : U = U') (kk : Gb κ M R Z pc L st U' cs sl) : Gb κ M R Z pc L st U cs sl := h ▸ kk
theorem gb_alen {r t0 : Nat} {cA : ClassId} {x : vp_A} {ty : FieldType} {v : Int32} (hd : decode M.2.1 pc = .ok (.arraylength, 1)) (hU : U[r]? = some (.inl (cA, x))) (ht : (gTys κ)[t0]? = some (cA, ty)) (hv : Int32.ofNat x.1 = v) (hq : pc + 1 = q) (kk : Gb κ M R Z q L (.int v :: st) U cs sl) : Gb κ M R Z pc L (.ref (κ.2.1 + r) :: st) U cs sl := by
  subst hq
  intro p e s m args below meth c H locs ls C hP hS hl hN
  exact va_alen C.1 C.2.1 C.2.2.2.2.2.2.2.2.1 hP.1 r t0 (gWb_get hU) ht hv hd (kk p e s m args below meth c H locs ls C hP hS hl hN)
theorem gb_get {r ci k idx N : Nat} {Cn : String} {T : u_T} {fs : List Value} {v : Value} (hf : gFR M.1.cls idx ci k Cn T N) (hd : decode M.2.1 pc = .ok (.getfield idx, 3)) (hU : U[r]? = some (.inr (ci, fs))) (hv : fs[k]? = some v) (hq : pc + 3 = q)
    (kk : Gb κ M R Z q L (v :: st) U cs sl) : Gb κ M R Z pc L (.ref (κ.2.1 + r) :: st) U cs sl := by
  subst hq
  intro p e s m args below meth c H locs ls C hP hS hl hN
  obtain ⟨hc, hk, hin, hl2, hC⟩ := hf
  obtain ⟨hx, hb, -, -, hown, -, -, hG⟩ := id C
  rcases hl2 with hl2 | ⟨host, hl2⟩
  · exact va_get hx hb (Ts := gTg) (fun w hw => hG.word hw) hin hown hG.2.1 hP.1 r (gWb_get hU) hc k hk (hG.word hl2.tg) (fun _ h9 => by rw [hC] at h9; exact h9) hv hd (kk p e s m args below meth c H locs ls C hP hS hl hN)
  · exact va_getN hx hb (Ts := gTg) (fun w hw => hG.word hw) hin hown hG.2.1 hP.1 r (gWb_get hU) hc k hk (va_Nw.use rfl (hG.nest hl2.1 hl2.2)) (fun _ h9 => by rw [hC] at h9; exact h9) hv hd (kk p e s m args below meth c H locs ls C hP hS hl hN)
/-- a field set, not a final one -/
theorem gb_put {r ci k idx N : Nat} {Cn : String} {T : u_T} {fs : List Value} {v : Value} {ty0 : Nat → FieldType} (hf : gFR M.1.cls idx ci k Cn T N) (hlink : gH (.fieldLink M.1.cls idx Cn (T k).2.1 (T k).2.2.1)) (hT : gFT Cn T N ty0) (hd : decode M.2.1 pc = .ok (.putfield idx, 3)) (hU : U[r]? = some (.inr (ci, fs))) (hfin : (T k).2.2.2 = false) (hn : narrow (ty0 k) v = v) (hfit : fits (ty0 k) v = true) (hlen : k < fs.length) (hq : pc + 3 = q)
    (kk : Gb κ M R Z q L st (U.set r (.inr (ci, fs.set k v))) cs sl) : Gb κ M R Z pc L (v :: .ref (κ.2.1 + r) :: st) U cs sl := by
  subst hq
  intro p e s m args below meth c H locs ls C hP hS0 hl hN
  obtain ⟨hc, hk, hin, -, hC⟩ := hf
  obtain ⟨hx, hb, -, -, hown, -, -, hG⟩ := id C
  have hts : ∀ w ∈ gTg, w.before args s = true := fun w hw => hG.word hw
  have hK := hG.2.1
  have hap := va_apart (own := M.1.cls) hts hin ty0 hT.1 hT.2 hK hc
  obtain ⟨r9, h1, cell, q1, q2, q3, q4⟩ := hP.1 r _ (gWb_get hU)
  have hr : r9 = (Cn, T, N) := Option.some.inj (h1.symm.trans hc)
  subst hr
  obtain ⟨hS, hfc, kC, hkC, hkind⟩ := hK.1 ci _ hc
  obtain ⟨cf, kf, fi, f, hi, hsl⟩ := hS k hk
  have hlay := hts _ (hin _ (u_in_lay hk))
  unfold u_lay at hlay
  rw [if_neg (by rw [hfin]; decide)] at hlay
  have hst := (u_facts hfc hkC (u_lays hts hin hk) hi).1
  have h6 := u_store hfc hkC hkind hlay hi (hT.1 k hk) hn hfit
  refine W.putK hx hb (f := f) ⟨hown, hG.word hlink.tg, ⟨_, _, _, hC ▸ hi⟩, hst⟩ (by rw [q2]; exact h6) q1 q3 (by rw [hsl]; exact k2_hasslot (q4 k hk)) rfl rfl hd fun H' e1 e2 e3 => ?_
  rw [hsl] at e1 ⊢
  have hP1 := hP.1.set (gWb_D κ U) (gWb_get hU) (e := .inr (ci, fs.set k v)) ⟨_, hc, t_OB.to (V := updV (vp_V fs) k v) ⟨_, e1, q2, q3, t_set q4 hap hk v⟩ (fun j _ => vp_updV_set hlen v j)⟩ e3
  rw [gWb_set] at hP1
  exact kk p e s m args below meth c H' _ ls C ⟨hP1, by rw [e2, List.length_set]; exact hP.2⟩ (hS0.put e2 e3 ((gWb_D κ U).2 r _ (gWb_get hU))) hl hN
/-- a final field set, by the constructor of its class -/
theorem gb_putF {r ci k idx N : Nat} {Cn : String} {T : u_T} {fs : List Value} {v : Value} {ty0 : Nat → FieldType} (hf : gFR M.1.cls idx ci k Cn T N) (hlink : gH (.fieldLink M.1.cls idx Cn (T k).2.1 (T k).2.2.1)) (hT : gFT Cn T N ty0) (hd : decode M.2.1 pc = .ok (.putfield idx, 3)) (hU : U[r]? = some (.inr (ci, fs))) (hfin : (T k).2.2.2 = true) (hnm : M.1.name = "<init>") (hown2 : (T k).1 = M.1.cls) (hn : narrow (ty0 k) v = v) (hfit : fits (ty0 k) v = true) (hlen : k < fs.length) (hq : pc + 3 = q)
    (kk : Gb κ M R Z q L st (U.set r (.inr (ci, fs.set k v))) cs sl) : Gb κ M R Z pc L (v :: .ref (κ.2.1 + r) :: st) U cs sl := by
  subst hq
  intro p e s m args below meth c H locs ls C hP hS0 hl hN
  obtain ⟨hc, hk, hin, -, hC⟩ := hf
  obtain ⟨hx, hb, -, -, hown, -, -, hG⟩ := id C
  have hts : ∀ w ∈ gTg, w.before args s = true := fun w hw => hG.word hw
  have hK := hG.2.1
  have hap := va_apart (own := M.1.cls) hts hin ty0 hT.1 hT.2 hK hc
  obtain ⟨r9, h1, cell, q1, q2, q3, q4⟩ := hP.1 r _ (gWb_get hU)
  have hr : r9 = (Cn, T, N) := Option.some.inj (h1.symm.trans hc)
  subst hr
  obtain ⟨hS, hfc, kC, hkC, hkind⟩ := hK.1 ci _ hc
  obtain ⟨cf, kf, fi, f, hi, hsl⟩ := hS k hk
  have hlay := hts _ (hin _ (u_in_lay hk))
  unfold u_lay at hlay
  rw [if_pos hfin] at hlay
  have hst := (u_facts hfc hkC (u_lays hts hin hk) hi).1
  have hcf : m.cls = cf := by
    obtain ⟨_, _, c', _, _, _, -, -, hf', -, -, -, hown3, -⟩ := Cond.laysFinal_spec hlay
    have e1 : c' = cf := by have := hi.symm.trans hf'; simp at this; exact this.1.symm
    rw [hown2] at hown3
    rw [← e1]; exact Option.some.inj (hown.symm.trans hown3)
  have h6 := u_fits hfc hkC hkind (Or.inr hlay) hi (hT.1 k hk) hn hfit
  refine W.putFinK hx hb hown (hG.word hlink.tg) (hC ▸ hi) hst hcf (hN.1 hnm) (by rw [q2]; exact h6) q1 q3 (by rw [hsl]; exact k2_hasslot (q4 k hk)) rfl rfl hd fun H' e1 e2 e3 => ?_
  rw [hsl] at e1 ⊢
  have hP1 := hP.1.set (gWb_D κ U) (gWb_get hU) (e := .inr (ci, fs.set k v)) ⟨_, hc, t_OB.to (V := updV (vp_V fs) k v) ⟨_, e1, q2, q3, t_set q4 hap hk v⟩ (fun j _ => vp_updV_set hlen v j)⟩ e3
  rw [gWb_set] at hP1
  exact kk p e s m args below meth c H' _ ls C ⟨hP1, by rw [e2, List.length_set]; exact hP.2⟩ (hS0.put e2 e3 ((gWb_D κ U).2 r _ (gWb_get hU))) hl hN
/-- an int put into an array -/
theorem gb_iast {r t0 n : Nat} {cA : ClassId} {f : Nat → Int32} {i x : Int32} (hd : decode M.2.1 pc = .ok (.iastore, 1)) (hU : U[r]? = some (.inl (cA, n, .inl f))) (ht : (gTys κ)[t0]? = some (cA, .int)) (hi : vp_in i n) (hq : pc + 1 = q)
    (kk : Gb κ M R Z q L st (U.set r (.inl (cA, n, .inl (upd f i.toNatClampNeg x)))) cs sl) : Gb κ M R Z pc L (.int x :: .int i :: .ref (κ.2.1 + r) :: st) U cs sl := by
  subst hq
  intro p e s m args below meth c H locs ls C hP hS hl hN
  have hK := C.2.2.2.2.2.2.2.2.1
  have ha := gWb_get (b := κ.2.1) hU
  refine W.iast C.1 C.2.1 (hP.1 r _ ha) ((hK.2 t0 _ ht).1 n (fun j => .int (f j))) (fun q => by cases q) (by show ¬ (i < 0 ∨ (arrV _ _ _).slots.size ≤ _); rw [arrV_size]; exact hi) rfl rfl hd fun H1 e z oq => ?_
  have hP1 := hP.1.set (gWb_D κ U) ha (e := .inl (cA, n, .inl (upd f i.toNatClampNeg x))) ?_ oq
  · rw [gWb_set] at hP1
    exact kk p _ s m args below meth c H1 _ ls C ⟨hP1, by rw [z, List.length_set]; exact hP.2⟩ (hS.put z oq ((gWb_D κ U).2 r _ ha)) hl hN
  · show H1[κ.2.1 + r]? = some (vp_cell _ _)
    rw [e]
    rw [vp_cell_i, vp_cell_i, arrV_store]
    congr 2
    funext q
    by_cases hq : q = i.toNatClampNeg
    · subst hq; simp [updV, upd]
    · simp [updV, upd, hq]
/-- an object put into an array -/
theorem gb_aast {r t0 qk ci n : Nat} {rc : vw_C} {cA : ClassId} {vs : List Value} {f : Nat → Option Nat} {i : Int32} (hd : decode M.2.1 pc = .ok (.aastore, 1)) (hU : U[r]? = some (.inl (cA, n, .inr (.inr (.inr (.inr f)))))) (ht : (gTys κ)[t0]? = some (cA, .object rc.1)) (hv : U[qk]? = some (.inr (ci, vs))) (hc : gCl[ci]? = some rc) (hi : vp_in i n) (hq : pc + 1 = q)
    (kk : Gb κ M R Z q L st (U.set r (.inl (cA, n, .inr (.inr (.inr (.inr (va_up f i.toNatClampNeg (some (κ.2.1 + qk))))))))) cs sl) : Gb κ M R Z pc L (.ref (κ.2.1 + qk) :: .int i :: .ref (κ.2.1 + r) :: st) U cs sl := by
  subst hq
  intro p e s m args below meth c H locs ls C hP hS hl hN
  have hK := C.2.2.2.2.2.2.2.2.1
  have ha := gWb_get (b := κ.2.1) hU
  have hlt : i.toNatClampNeg < n := Nat.not_le.mp fun q => hi (Or.inr q)
  have h0 : ¬ i < 0 := fun q => hi (Or.inl q)
  obtain ⟨r', hr', cellV, g1, g2, g3, -⟩ := hP.1 qk _ (gWb_get hv)
  have hcls := (hK.1 ci rc hc).2
  obtain ⟨kA, comp, k1, k2, k3, -⟩ := (hK.2 t0 _ ht).2
  have hcomp : comp = κ.2.2.1.1 ci := Option.some.inj (k3.symm.trans hcls.1)
  subst hcomp
  obtain ⟨kC, hkC, -⟩ := hcls.2
  refine W.aast C.1 C.2.1 (hP.1 r _ ha) (fun q h => by cases h) (fun h => by cases h) k1 k2 rfl hkC ⟨h0, by show _ < (arrV _ _ _).slots.size; rw [arrV_size]; exact hlt⟩ g1 (fun q h => by rw [g3] at h; cases h) (by rw [g2]; exact hkC) (by rw [g2]; exact va_assign hcls) rfl rfl hd fun H1 e z oq => ?_
  have hP1 := hP.1.set (gWb_D κ U) ha (e := .inl (cA, n, .inr (.inr (.inr (.inr (va_up f i.toNatClampNeg (some (κ.2.1 + qk)))))))) ?_ oq
  · rw [gWb_set] at hP1
    exact kk p _ s m args below meth c H1 _ ls C ⟨hP1, by rw [z, List.length_set]; exact hP.2⟩ (hS.put z oq ((gWb_D κ U).2 r _ ha)) hl hN
  · show H1[κ.2.1 + r]? = some (vp_cell _ _)
    rw [e]
    rw [vp_cell_q, vp_cell_q, arrV_store]
    congr 2
    funext q
    by_cases hq : q = i.toNatClampNeg
    · subst hq
      simp [updV, va_up, va_rf]
    · simp [updV, va_up, hq]
/-- one more object or array behind the others -/
theorem gBx.push {H H1 : Heap} {x : va_E} (hP : gBx κ U H) (h1 : va_at κ.2.2.1 gCl (κ.2.1 + U.length, x) H1) (hz : H1.size = H.size + 1) (ho : ∀ q : Nat, q < H.size → H1[q]? = H[q]?) : gBx κ (U ++ [x]) H1 := by
  refine ⟨?_, by rw [hz, hP.2, List.length_append]; rfl⟩
  rw [gWb_app]
  refine (hP.1.kept (fun k x hx => ho x.1 ((hP.1 k x hx).lt))).app (fun k x hx => ?_)
  have hk : k < 1 := (List.getElem?_eq_some_iff.mp hx).1
  rw [show k = 0 by omega] at hx
  cases hx
  exact h1
theorem gbS {s : State} {H H1 : Heap} {locs : List Loc} (hS : va_S (gA κ) s.heap H locs) (hz : H1.size = H.size + 1) (ho : ∀ q : Nat, q < H.size → H1[q]? = H[q]?) : va_S (gA κ) s.heap H1 locs :=
  ⟨Nat.le_trans hS.1 (by omega), fun x h1 h2 => (ho x (Nat.lt_of_lt_of_le h1 hS.1)).trans (hS.2.1 x h1 h2), hS.2.2⟩
theorem gb_new {o idx ci N : Nat} {Cn : String} {T : u_T} {fs : List Value} {ty : Nat → FieldType} (ho : U.length = o) (hc : gCl[ci]? = some (Cn, T, N)) (hin : ∀ w ∈ u_ws Cn T N, w ∈ gTg) (hT : gFT Cn T N ty) (hl1 : gH (.classLink M.1.cls idx Cn)) (hl2 : gH (.instantiable Cn N)) (hl3 : gH (.initialized Cn)) (hfs : ∀ j, j < N → defaultValue (ty j) = vp_V fs j)
    (hcs : cs + 1 ≤ R.cells) (hsl : sl + N ≤ R.slots) (hd : decode M.2.1 pc = .ok (.new idx, 3)) (hq : pc + 3 = q) (kk : Gb κ M R Z q L (.ref (κ.2.1 + o) :: st) (U ++ [.inr (ci, fs)]) (cs + 1) (sl + N)) : Gb κ M R Z pc L st U cs sl := by
  subst hq; subst ho
  intro p e s m args below meth c H locs ls C hP hS hl hN
  have hG := C.2.2.2.2.2.2.2
  have hK := hG.2.1
  have hts : ∀ w ∈ gTg, w.before args s = true := fun w hw => hG.word hw
  have hKn := hK.1 ci _ hc
  refine W.newcK C.1 C.2.1 C.2.2.2.2.1 (hts _ hl1.tg) (hts _ hl2.tg) (hts _ hl3.tg) rfl hd hcs hsl hKn.2.1 rfl fun H1 kC hkC e1 z1 o1 => ?_
  rw [hP.2] at e1
  have := kk p e s m args below meth c H1 locs ls C (hP.push ⟨_, hc, (u_born ty hts hin hKn hkC e1 hT.1).to hfs⟩ z1 o1) (gbS hS z1 o1) hl hN
  rw [← hP.2] at this
  exact this
theorem gb_newa {o t0 n : Nat} {atype : ArrayType} {ty : FieldType} {a0 : vp_A} {cA : ClassId} (ho : U.length = o) (hw : gH (.arrayClass (newarray.typeOf atype))) (hty : newarray.typeOf atype = ty) (ht : (gTys κ)[t0]? = some (cA, ty)) (hob : ∀ C, ty ≠ .object C) (ha : vp_cell cA a0 = arrV cA n (fun _ => defaultValue ty)) {x : Int32} (hn : ¬ x < 0) (hx : x.toNatClampNeg = n) (hby : n * componentBytes ty ≤ 536870912)
    (hcs : cs + 1 ≤ R.cells) (hsl : sl + n ≤ R.slots) (hd : decode M.2.1 pc = .ok (.newarray atype, 2)) (hq : pc + 2 = q) (kk : Gb κ M R Z q L (.ref (κ.2.1 + o) :: st) (U ++ [.inl (cA, a0)]) (cs + 1) (sl + n)) : Gb κ M R Z pc L (.int x :: st) U cs sl := by
  subst hq; subst ho; subst hty
  intro p e s m args below meth c H locs ls C hP hS hl hN
  have hG := C.2.2.2.2.2.2.2
  have hK := hG.2.1
  refine va_newaK C.1 C.2.1 (hG.word hw.tg) rfl hd rfl hn hx hby hcs hsl rfl fun H1 cA' e1 z1 o1 hAr hNm => ?_
  have eC : cA' = cA := by
    have h2 := (hK.2 t0 _ ht).2
    have h3 : s.vm.findClass ("[" ++ (newarray.typeOf atype).toString) = some cA := by
      cases atype <;> exact h2
    exact Option.some.inj (hNm.symm.trans h3)
  subst eC
  rw [hP.2] at e1
  have := kk p e s m args below meth c H1 locs ls C (hP.push (by show H1[κ.2.1 + U.length]? = some (vp_cell _ _); rw [ha]; exact e1) z1 o1) (gbS hS z1 o1) hl hN
  rw [← hP.2] at this
  exact this
theorem gb_anew {o t0 n idx : Nat} {Cn : String} {cA : ClassId} (ho : U.length = o) (hl1 : gH (.classLink M.1.cls idx Cn)) (hCn : Cn = RX1) (ht : (gTys κ)[t0]? = some (cA, .object Cn)) {x : Int32} (hn : ¬ x < 0) (hx : x.toNatClampNeg = n) (hby : n * 4 ≤ 536870912)
    (hcs : cs + 1 ≤ R.cells) (hsl : sl + n ≤ R.slots) (hd : decode M.2.1 pc = .ok (.anewarray idx, 3)) (hq : pc + 3 = q) (kk : Gb κ M R Z q L (.ref (κ.2.1 + o) :: st) (U ++ [.inl (cA, n, .inr (.inr (.inr (.inr (fun _ => none)))))]) (cs + 1) (sl + n)) : Gb κ M R Z pc L (.int x :: st) U cs sl := by
  subst hq; subst ho; subst hx
  intro p e s m args below meth c H locs ls C hP hS hl hN
  have hG := C.2.2.2.2.2.2.2
  have hK := hG.2.1
  refine W.anew C.1 C.2.1 C.2.2.2.2.1 (hG.word hl1.tg) (by rw [hCn]; exact va_AO.use hN.2) rfl hd rfl hn hby hcs hsl fun cA' kA comp f1 f2 f3 f4 => ?_
  generalize hH1 : H.push ({ cls := cA', slots := Array.replicate x.toNatClampNeg .null, vm := .none } : Cell) = H1
  have z1 : H1.size = H.size + 1 := by rw [← hH1, Array.size_push]
  have e1 : H1[H.size]? = some (arrV cA' x.toNatClampNeg (fun _ => .null)) := by rw [← hH1, Array.getElem?_push_size, ← arrV_new]
  have o1 : ∀ q : Nat, q < H.size → H1[q]? = H[q]? := fun q hq => by rw [← hH1, Array.getElem?_push, if_neg (Nat.ne_of_lt hq)]
  have eC : cA' = cA := by
    obtain ⟨_, _, -, -, -, h3⟩ := (hK.2 t0 _ ht).2
    exact Option.some.inj (f1.symm.trans h3)
  subst eC
  rw [hP.2] at e1
  have := kk p e s m args below meth c H1 locs ls C (hP.push e1 z1 o1) (gbS hS z1 o1) hl hN
  rw [← hP.2] at this
  exact this
/-- Object's own constructor -/
def gOI (own : String) (idx : Nat) : Prop := gH (.methodLink own idx Lib.objectInit) ∧ gH (.instanceMethod Lib.objectInit) ∧ gH (.code Lib.objectInit ⟨#[0xb1]⟩ 1 none)
theorem gb_obj {idx a : Nat} (hw : gOI M.1.cls idx) (hd : decode M.2.1 pc = .ok (.invokespecial idx, 3)) (hst : st = []) (hf : 1 ≤ R.frames) (hl2 : 12 ≤ R.locals) (hq : pc + 3 = q) (kk : Gb κ M R Z q L st U cs sl) : Gb κ M R Z pc L (.ref a :: st) U cs sl := by
  subst hq; subst hst
  intro p e s m args below meth c H locs ls C hP hS hl hN
  have hG := C.2.2.2.2.2.2.2
  exact W.objInit C.1 C.2.1 C.2.2.2.2.1 (hG.word hw.1.tg) (hG.word hw.2.1.tg) (hG.word hw.2.2.tg) rfl (by show ls.size = _; rw [hl.1, C.2.2.2.1]) rfl hd hf (by show 0 + 12 ≤ R.locals; omega) (kk p e s m args below meth c H locs ls C hP hS hl hN)
theorem gb_ret {U' : List va_E} {kc ks : Nat} (hd : decode M.2.1 pc = .ok (.return_, 1)) (hr : M.2.2.2.1 = none) (hU : U = U') : Gb κ M R (gZb κ U' kc ks) pc L [] U kc ks := by
  subst hU
  intro p e s m args below meth c H locs ls C hP hS hl hN
  exact W.vret C.1 C.2.1 (C.2.2.1.trans hr) (fun t ht _ => ⟨rfl, by rw [ht]; exact hP, hS.F ht⟩) hS.2.2 hd C.2.2.2.2.2.1
/-! calls of constructors -/
theorem gbRun {p : Program} {e : Env} {s : State} {m : MethodId} {args : Array Value} {below : List Frame} {meth : Method} {c : Code} {H : Heap} {locs : List Loc} {ls : Array Slot} {Q : State → Prop} {st0 rest : List Value} {kc ks : Nat} {U' : List va_E} {a : Array Value}
    (hr : va_Run p κ.1 e R s m args below meth c H locs cs sl kc ks (F0 m pc ls st0) rest (gCpost κ U' a) (gA κ)) (hS : va_S (gA κ) s.heap H locs)
    (kk : ∀ (H1 : Heap) (locs1 : List Loc), gBx κ U' H1 → va_S (gA κ) s.heap H1 locs1 → W p κ.1 e R s m args below meth c H1 locs1 (cs + kc) (sl + ks) Q (F0 m (pc + 3) ls rest)) : W p κ.1 e R s m args below meth c H locs cs sl Q (F0 m pc ls st0) := by
  intro T hT X
  obtain ⟨v, st₀, t, T', L, h0, X', hL, e1, e2, ⟨hv, hP1, hF⟩, st⟩ := hr T hT X
  cases hv
  obtain ⟨k2, k3, k4⟩ := vx_keep h0 e1 hS (fun q _ h => h) (fun q h => h) hL hF
  obtain ⟨t2, a1, b1⟩ := kk T'.heap (locs ++ L) (by rw [e1]; exact hP1) k4 T' rfl X'
  exact ⟨t2, st t2 a1, b1⟩
def gIB (M' : gM) (np : Nat) : Prop := M'.2.2.2.2 = [] ∧ gH (.instanceMethod M'.1) ∧ gH (.initialized M'.1.cls) ∧ gH (gCw M') ∧ gMp M' np ∧ M'.1.name = "<init>" ∧ M'.2.2.2.1 = none
def gIL (own : String) (idx : Nat) (M' : gM) (np : Nat) : Prop := gH (.methodLink own idx M'.1) ∧ gIB M' np
def gIN (own : String) (idx : Nat) (host : String) (M' : gM) (np : Nat) : Prop := gHn (.methodLinkNest own idx M'.1 host) ∧ gIB M' np
theorem gb_callI {idx np d' kc ks cs2 sl2 r : Nat} {M' : gM} {As rest st0 : List Value} {U' : List va_E} (hm : gIL M.1.cls idx M' np) (hC : gCb κ M' d' (.ref (κ.2.1 + r) :: As) U U' kc ks) (hd : decode M.2.1 pc = .ok (.invokespecial idx, 3)) (hst : st0 = As.reverse ++ .ref (κ.2.1 + r) :: rest) (hnp : As.length = np) (hW : (rest.map fun v => v.category).sum ≤ 8)
    (h1 : cs + kc = cs2) (h2 : sl + ks = sl2) (hf : d' + 1 ≤ R.frames ∧ 64 * (d' + 1) ≤ R.locals ∧ cs2 ≤ R.cells ∧ sl2 ≤ R.slots) (hq : pc + 3 = q) (kk : Gb κ M R Z q L rest U' cs2 sl2) : Gb κ M R Z pc L st0 U cs sl := by
  subst hq; subst h1; subst h2
  intro p e s m args below meth c H locs ls C hP hS hl hN
  obtain ⟨y, bytes, maxL, ret, hs⟩ := M'
  obtain ⟨hx, hb, -, hml, hown, -, -, hG⟩ := id C
  obtain ⟨g1, hh, g2, g4, g5, g6, g7, g8⟩ := hm
  dsimp only at hh g7 g8
  subst hh; subst g8
  have hts : ∀ w ∈ gTg, w.before args s = true := fun w hw => hG.word hw
  refine gbRun (a := (Value.ref (κ.2.1 + r) :: As).toArray) ?_ hS (fun H1 locs1 hP1 hS1 => kk p e s m args below meth c H1 locs1 ls C hP1 hS1 hl hN)
  refine va_runI (As := As) (b := κ.2.1 + r) (rest := rest) (Ts := gTg) (y := y) (bytes := bytes) (maxL := maxL) (ws := gWs (y, bytes, maxL, none, [])) (rm := gRb d' kc ks) ⟨hx, hb, hml, hown, hts⟩ hC (cwI (ws' := gTg) np hts (gWs_good g5) rfl rfl rfl (hts _ g4.tg) (hts _ g1.tg) (hts _ g2.tg) g7 ⟨g6.1.1, g6.1.2.1, g6.1.2.2⟩ ⟨hf.1, ?_⟩) ⟨gCpre_blind κ _ U, fun V hV hW9 => ⟨rfl, ⟨hG.moveA hS hV hW9, va_AO.moved hW9.alike hN.2⟩, by rw [hV]; exact hP⟩⟩ rfl hnp hl.1 hst (lv_room hW) hd ⟨hf.2.2.1, hf.2.2.2⟩
  show 8 + (maxL + 11) + 64 * d' ≤ R.locals
  have h8 : maxL ≤ 45 := g6.2
  have := hf.2.1
  omega
theorem gb_callN {idx np d' kc ks cs2 sl2 r : Nat} {host : String} {M' : gM} {As rest st0 : List Value} {U' : List va_E} (hm : gIN M.1.cls idx host M' np) (hC : gCb κ M' d' (.ref (κ.2.1 + r) :: As) U U' kc ks) (hd : decode M.2.1 pc = .ok (.invokespecial idx, 3)) (hst : st0 = As.reverse ++ .ref (κ.2.1 + r) :: rest) (hnp : As.length = np) (hW : (rest.map fun v => v.category).sum ≤ 8)
    (h1 : cs + kc = cs2) (h2 : sl + ks = sl2) (hf : d' + 1 ≤ R.frames ∧ 64 * (d' + 1) ≤ R.locals ∧ cs2 ≤ R.cells ∧ sl2 ≤ R.slots) (hq : pc + 3 = q) (kk : Gb κ M R Z q L rest U' cs2 sl2) : Gb κ M R Z pc L st0 U cs sl := by
  subst hq; subst h1; subst h2
  intro p e s m args below meth c H locs ls C hP hS hl hN
  obtain ⟨y, bytes, maxL, ret, hs⟩ := M'
  obtain ⟨hx, hb, -, hml, hown, -, -, hG⟩ := id C
  obtain ⟨g1, hh, g2, g4, g5, g6, g7, g8⟩ := hm
  dsimp only at hh g7 g8
  subst hh; subst g8
  have hts : ∀ w ∈ gTg, w.before args s = true := fun w hw => hG.word hw
  refine gbRun (a := (Value.ref (κ.2.1 + r) :: As).toArray) ?_ hS (fun H1 locs1 hP1 hS1 => kk p e s m args below meth c H1 locs1 ls C hP1 hS1 hl hN)
  refine va_runIN (As := As) (b := κ.2.1 + r) (rest := rest) (Ts := gTg) (y := y) (host := host) (bytes := bytes) (maxL := maxL) (ws := gWs (y, bytes, maxL, none, [])) (rm := gRb d' kc ks) ⟨hx, hb, hml, hown, hts⟩ hC ⟨va_cnB (ws' := gTg) np hts (gWs_good g5) rfl rfl rfl (hG.nest g1.1 g1.2) (hts _ g4.tg) ⟨g6.1.1, g6.1.2.1, g6.1.2.2⟩ ⟨hf.1, ?_⟩, g7, hts _ g2.tg⟩ ⟨gCpre_blind κ _ U, fun V hV hW9 => ⟨rfl, ⟨hG.moveA hS hV hW9, va_AO.moved hW9.alike hN.2⟩, by rw [hV]; exact hP⟩⟩ rfl hnp hl.1 hst (lv_room hW) hd ⟨hf.2.2.1, hf.2.2.2⟩
  show 8 + (maxL + 11) + 64 * d' ≤ R.locals
  have h8 : maxL ≤ 45 := g6.2
  have := hf.2.1
  omega
end GB