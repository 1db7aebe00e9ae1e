/-! the law's own methods: the class is called, and what it throws is caught -/
section LW
variable {κ : gK} {M : gM} {R : Room} {Z : gZ} {pc q : Nat} {L : gL} {st : List Value} {σ : gST} {n : Nat}
theorem go_callV_c {idx np d' k1 r ci n2 t : Nat} {fs : List (Option Nat)} {M' : gM} {As rest st0 : List Value} {E name : String} {σ1 : gST} {C0 : String} {T0 : u_T} {N0 : Nat} {pre suf : List ExceptionTableEntry} {x : ExceptionTableEntry}
    (hm : gMV M.1.cls idx M' np) (hC : gCt κ M' d' (.ref (κ.2.1 + r) :: As) σ (.inr E) σ1 k1) (hd : decode M.2.1 pc = .ok (.invokevirtual idx, 3)) (hst : st0 = As.reverse ++ .ref (κ.2.1 + r) :: rest) (hs : gSh r = .inl (ci, fs)) (hr : r < gN) (hc : gCl[ci]? = some (C0, T0, N0)) (hcl : C0 = M'.1.cls)
    (hnp : As.length = np) (hW : (rest.map fun v => v.category).sum ≤ 8) (hn : n + k1 = n2) (hfit : gFit R d' n2)
    (htab : tableOf M.2.2.2.2 = pre ++ x :: suf) (hpass : ∀ z ∈ pre, z.catchType ≠ 0 ∧ ∃ nm : String, gH (.classLink M.1.cls z.catchType nm) ∧ (E, nm) ∈ gNcs) (hx : covers x pc = true) (h0 : x.catchType ≠ 0) (hlink : gH (.classLink M.1.cls x.catchType name)) (hcast : gHn (.castable E name)) (hh : x.handlerPc = t)
    (kk : ∀ q9 : Nat, Go κ M R Z t L [.ref q9] σ1 n2) : Go κ M R Z pc L st0 σ n := by
  subst hn; subst hh
  intro p e s m args below meth c H locs ls C hP hS hl
  refine gRun_thr (gV_run C hP hS hl hm hC hd hs hr hc hcl hst hnp hW hfit) hS (fun ce q9 H1 locs1 hP1 hS1 h1 h2 h3 => ?_)
  have hG := C.2.2.2.2.2.2.2
  refine vx_catch (own := M.1.cls) C.2.2.2.2.1 pre x suf (C.2.2.2.2.2.2.1.trans htab) (fun z hz => ?_) hx h0 (hG.word hlink.tg) (hG.word2 hcast.1 hcast.2) h1 h2 h3 (kk q9 p e s m args below meth c H1 locs1 ls C hP1 hS1 hl)
  obtain ⟨q1, nm, q2, q3⟩ := hpass z hz
  exact Or.inr ⟨q1, nm, hG.word q2.tg, hG.2.2.2.2.2.1 _ q3⟩
end LW
/-- the law's world behind a call of the class: its answer stands in the out array -/
def gOo (f : gO × gST) : gST := match f.1 with
  | .inl (some (.int v)) => (f.2.1, v.toInt64, f.2.2.2)
  | .inl (some (.double v)) => (f.2.1, f.2.2.1, v)
  | _ => f.2
theorem gOo_i {f : gO × gST} {v : Int32} (h : f.1 = rI v) : gOo f = (f.2.1, v.toInt64, f.2.2.2) := by unfold gOo; rw [h]
theorem gOo_d {f : gO × gST} {v : UInt64} (h : f.1 = .inl (some (.double v))) : gOo f = (f.2.1, f.2.2.1, v) := by unfold gOo; rw [h]
theorem gOo_x {f : gO × gST} {E : String} (h : f.1 = .inr E) : gOo f = f.2 := by unfold gOo; rw [h]
theorem gOo_n {f : gO × gST} (h : f.1 = .inl none) : gOo f = f.2 := by unfold gOo; rw [h]
theorem xc_i (l : List String) (v : Int32) : xC l (rI v) = 0 := rfl
theorem xc_d (l : List String) (v : UInt64) : xC l (.inl (some (.double v))) = 0 := rfl
theorem xc_n (l : List String) : xC l (.inl none) = 0 := rfl
/-- what holds between two calls of the law -/
def gJ (σ : gST) : Prop := gAll σ σ
theorem wL_cO : gH (.classLink RL 21 "java/lang/IndexOutOfBoundsException") := ⟨gI3 (List.mem_of_getElem? (i := 7) rfl), rfl⟩
theorem wL_kO : gHn (.castable "java/lang/IndexOutOfBoundsException" "java/lang/IndexOutOfBoundsException") := ⟨gI3 (List.mem_of_getElem? (i := 45) rfl), rfl⟩
theorem wL_cA : gH (.classLink RL 13 "java/lang/IllegalArgumentException") := ⟨gI2 (List.mem_of_getElem? (i := 115) rfl), rfl⟩
theorem wL_kA : gHn (.castable "java/lang/IllegalArgumentException" "java/lang/IllegalArgumentException") := ⟨gI2 (List.mem_of_getElem? (i := 128) rfl), rfl⟩
theorem wL_cS : gH (.classLink RL 15 "java/lang/IllegalStateException") := ⟨gI2 (List.mem_of_getElem? (i := 116) rfl), rfl⟩
theorem wL_kS : gHn (.castable "java/lang/IllegalStateException" "java/lang/IllegalStateException") := ⟨gI2 (List.mem_of_getElem? (i := 212) rfl), rfl⟩
theorem wL_cU : gH (.classLink RL 55 "java/lang/UnsupportedOperationException") := ⟨gI4 (List.mem_of_getElem? (i := 33) rfl), rfl⟩
theorem wL_kU : gHn (.castable "java/lang/UnsupportedOperationException" "java/lang/UnsupportedOperationException") := ⟨gI4 (List.mem_of_getElem? (i := 47) rfl), rfl⟩
theorem wL_cN : gH (.classLink RL 37 "java/util/NoSuchElementException") := ⟨gI3 (List.mem_of_getElem? (i := 207) rfl), rfl⟩
theorem wL_kN : gHn (.castable "java/util/NoSuchElementException" "java/util/NoSuchElementException") := ⟨gI3 (List.mem_of_getElem? (i := 214) rfl), rfl⟩
theorem wL_cR : gH (.classLink RL 133 "java/lang/ArithmeticException") := ⟨gI6 (List.mem_of_getElem? (i := 1) rfl), rfl⟩
theorem wL_kR : gHn (.castable "java/lang/ArithmeticException" "java/lang/ArithmeticException") := ⟨gI6 (List.mem_of_getElem? (i := 13) rfl), rfl⟩