def gStr : List (Nat × String) := [(65, "the code is out of range"), (86, "no glyph with this code can be added"), (497, "no such glyph"), (100, "the width or the height is less than 1"), (509, "a coordinate is out of range"), (109, "the glyph has all of its contours"), (499, "no such contour"), (501, "no such point"), (142, "no such number of a glyph"), (176, "no glyph has this code"), (503, "no such side"), (197, "the sidebearing is out of range"), (213, "the difference is out of range"), (224, "the sidebearing would follow itself"), (233, "no such number of a sidebearing"), (251, "no such class"), (515, "the kern is out of range"), (279, "all kerns for glyphs are told"), (287, "no such kern is told"), (301, "the ends of the stem are not in order"), (307, "there is no room for the stem"), (505, "no such stem"), (519, "the size of the grid is out of range"), (331, "the x is out of range"), (340, "the pixel is out of range"), (356, "the tracking or the space width is out of range"), (365, "the text buffer is full"), (381, "a character is neither a space nor the code of a glyph"), (386, "there is no character in the proof"), (394, "there is no such character in the proof"), (523, "the measure is out of range"), (410, "no such number of a line"), (412, "there is no such line"), (425, "the number of lines is out of range"), (430, "no measure is sufficient"), (437, "there is no glyph"), (445, "no such account"), (466, "the text has a fault"), (474, "the design has no room for this glyph"), (483, "no change is kept"), (494, "there is no snapshot")]
def gNcs : List (String × String) := [("java/lang/IllegalStateException", "java/lang/IllegalArgumentException"), ("java/lang/IllegalArgumentException", "java/lang/IndexOutOfBoundsException"), ("java/lang/IllegalStateException", "java/lang/IndexOutOfBoundsException"), ("java/lang/UnsupportedOperationException", "java/lang/IndexOutOfBoundsException"), ("java/lang/UnsupportedOperationException", "java/lang/IllegalArgumentException"), ("java/util/NoSuchElementException", "java/lang/IllegalArgumentException")]
/-! ===== THE PURE WORLD: the objects that the constructors make stand in a fixed order from b on; what changes is ints alone ===== -/
abbrev gST : Type := (Nat → Nat → Int32) × Int64 × UInt64
abbrev gX3 : Type := Nat × Nat × (Nat → Int32)
abbrev gK : Type := Launch × Nat × va_G × (Nat → ClassId) × gX3
abbrev gM : Type := MethodName × ByteArray × Nat × Option FieldType × List (Nat × Nat × Nat × Nat)
abbrev gO : Type := (Option Value) ⊕ String
abbrev gL : Type := List (Nat × Value)
abbrev gSH : Type := (Nat × List (Option Nat)) ⊕ (Nat × Nat)
abbrev gCl : List vw_C := [(RX0, TX0, 3), (RX1, TX1, 6), (RX2, TX2, 12), (RX3, TX3, 3), (RX4, TX4, 6), (RX5, TX5, 6), (RX6, TX6, 10), (RX7, TX7, 1), (RX8, TX8, 3), (RX9, TX9, 2), (RX10, TX10, 8), (RX11, TX11, 25)]
/-- a design's objects, from o on -/
def gDs (o : Nat) : Nat → gSH
  | 0 => .inl (1, [some (o + 1), some (o + 12), some (o + 19), some (o + 28), none, none])
  | 1 => .inl (5, [some (o + 2), some (o + 4), some (o + 6), some (o + 8), some (o + 10), none])
  | 2 => .inl (7, [some (o + 3)])
  | 3 => .inr (0, 24)
  | 4 => .inl (7, [some (o + 5)])
  | 5 => .inr (0, 24)
  | 6 => .inl (7, [some (o + 7)])
  | 7 => .inr (0, 72)
  | 8 => .inl (7, [some (o + 9)])
  | 9 => .inr (0, 864)
  | 10 => .inl (7, [some (o + 11)])
  | 11 => .inr (0, 864)
  | 12 => .inl (0, [some (o + 13), some (o + 15), some (o + 17)])
  | 13 => .inl (7, [some (o + 14)])
  | 14 => .inr (0, 48)
  | 15 => .inl (7, [some (o + 16)])
  | 16 => .inr (0, 48)
  | 17 => .inl (7, [some (o + 18)])
  | 18 => .inr (0, 48)
  | 19 => .inl (4, [some (o + 20), some (o + 22), some (o + 24), some (o + 26), none, none])
  | 20 => .inl (7, [some (o + 21)])
  | 21 => .inr (0, 24)
  | 22 => .inl (7, [some (o + 23)])
  | 23 => .inr (0, 24)
  | 24 => .inl (7, [some (o + 25)])
  | 25 => .inr (0, 36)
  | 26 => .inl (7, [some (o + 27)])
  | 27 => .inr (0, 576)
  | 28 => .inl (8, [some (o + 29), some (o + 31), some (o + 33)])
  | 29 => .inl (7, [some (o + 30)])
  | 30 => .inr (0, 24)
  | 31 => .inl (7, [some (o + 32)])
  | 32 => .inr (0, 96)
  | 33 => .inl (7, [some (o + 34)])
  | _ => .inr (0, 96)
def gMf : List (Option Nat) := [some 377, some 378, none, some 379, none, none, some 380, none, some 381, none, some 382, some 383, some 384, none, some 385, some 386, some 387, none, none, none, none, none, some 388, some 389, none]
/-- what stands behind the history, from 353 on: buffer, glyphText, proof, the model, the law's two rows -/
def gSm : Nat → gSH
  | 0 => .inl (9, [some 354, none])
  | 1 => .inl (7, [some 355])
  | 2 => .inr (0, 60)
  | 3 => .inl (2, [some 357, some 359, some 361, none, none, none, none, none, none, none, none, none])
  | 4 => .inl (7, [some 358])
  | 5 => .inr (0, 60)
  | 6 => .inl (7, [some 360])
  | 7 => .inr (0, 60)
  | 8 => .inl (7, [some 362])
  | 9 => .inr (0, 60)
  | 10 => .inl (6, [some 364, some 366, some 368, some 370, some 372, some 374, none, none, none, none])
  | 11 => .inl (7, [some 365])
  | 12 => .inr (0, 60)
  | 13 => .inl (7, [some 367])
  | 14 => .inr (0, 60)
  | 15 => .inl (7, [some 369])
  | 16 => .inr (0, 60)
  | 17 => .inl (7, [some 371])
  | 18 => .inr (0, 60)
  | 19 => .inl (7, [some 373])
  | 20 => .inr (0, 60)
  | 21 => .inl (7, [some 375])
  | 22 => .inr (0, 60)
  | 23 => .inl (11, gMf)
  | 24 => .inr (0, 2500)
  | 25 => .inr (0, 2500)
  | 26 => .inr (0, 20000)
  | 27 => .inr (1, 60)
  | 28 => .inr (0, 60)
  | 29 => .inr (0, 60)
  | 30 => .inr (0, 60)
  | 31 => .inr (0, 60)
  | 32 => .inr (0, 60)
  | 33 => .inr (0, 60)
  | 34 => .inr (0, 60)
  | 35 => .inr (0, 72)
  | 36 => .inr (0, 3)
  | 37 => .inr (2, 1)
  | _ => .inr (3, 1)
def gSh (k : Nat) : gSH :=
  bif Nat.beq k 0 then .inl (10, [some 1, some 36, some 71, some 353, some 356, some 363, none, none])
  else bif Nat.blt k 71 then gDs (1 + 35 * ((k - 1) / 35)) ((k - 1) % 35)
  else bif Nat.beq k 71 then .inl (3, [some 72, none, none])
  else bif Nat.beq k 72 then .inr (4, 8)
  else bif Nat.blt k 353 then gDs (73 + 35 * ((k - 73) / 35)) ((k - 73) % 35)
  else gSm (k - 353)
abbrev gN : Nat := 392
def gF (b : Nat) (f : Nat → Int32) : List (Option Nat) → Nat → List Value
  | [], _ => []
  | some r :: t, i => .ref (b + r) :: gF b f t (i + 1)
  | none :: t, i => .int (f i) :: gF b f t (i + 1)
def gE (κ : gK) (σ : gST) (k : Nat) : va_E := match gSh k with
  | .inl (ci, fs) => .inr (ci, gF κ.2.1 (σ.1 k) fs 0)
  | .inr (0, n) => .inl (κ.2.2.2.1 0, n, .inl (σ.1 k))
  | .inr (1, n) => .inl (κ.2.2.2.1 1, n, .inl (σ.1 k))
  | .inr (2, n) => .inl (κ.2.2.2.1 2, n, .inr (.inl (fun j => if j = 0 then σ.2.1 else 0)))
  | .inr (3, n) => .inl (κ.2.2.2.1 3, n, .inr (.inr (.inr (.inl (fun j => if j = 0 then σ.2.2 else 0)))))
  | .inr (_, n) => .inl (κ.2.2.2.1 4, n, .inr (.inr (.inr (.inr (fun j => some (κ.2.1 + (73 + 35 * j)))))))
def gW (κ : gK) (σ : gST) : va_W := (List.range gN).map (fun k => (κ.2.1 + k, gE κ σ k))
abbrev gTys (κ : gK) : List (ClassId × FieldType) := [(κ.2.2.2.1 0, .int), (κ.2.2.2.1 1, .char), (κ.2.2.2.1 2, .long), (κ.2.2.2.1 3, .double), (κ.2.2.2.1 4, .object RX1)]
abbrev gA (κ : gK) : Nat → Prop := fun q => κ.2.1 ≤ q
abbrev gP (κ : gK) (σ : gST) (H : Heap) : Prop := va_P κ.2.2.1 gCl (gW κ σ) H
theorem gW_at {κ : gK} {σ : gST} {k : Nat} (h : k < gN) : (gW κ σ)[k]? = some (κ.2.1 + k, gE κ σ k) := by
  unfold gW
  rw [List.getElem?_map, List.getElem?_range h]
  rfl
theorem gW_of {κ : gK} {σ : gST} {k : Nat} {q : Nat × va_E} (h : (gW κ σ)[k]? = some q) : k < gN ∧ q = (κ.2.1 + k, gE κ σ k) := by
  have hk : k < gN := by
    rcases Nat.lt_or_ge k gN with h1 | h1
    · exact h1
    · exfalso
      have h2 : (gW κ σ)[k]? = none := by
        apply List.getElem?_eq_none
        unfold gW
        rw [List.length_map, List.length_range]
        exact h1
      rw [h2] at h
      cases h
  rw [gW_at hk] at h
  exact ⟨hk, (Option.some.inj h).symm⟩
theorem gW_D (κ : gK) (σ : gST) : va_D (gA κ) (gW κ σ) := by
  refine ⟨fun i j p q hi hj hpq => ?_, fun k q hk => ?_⟩
  · obtain ⟨-, rfl⟩ := gW_of hi
    obtain ⟨-, rfl⟩ := gW_of hj
    exact Nat.add_left_cancel hpq
  · obtain ⟨-, rfl⟩ := gW_of hk
    exact Nat.le_add_right _ _
/-- one object's (or array's) ints are others -/
def gSA (f : Nat → Nat → Int32) (k : Nat) (g : Nat → Int32) : Nat → Nat → Int32 := fun a => if a = k then g else f a
theorem gSA_self (f : Nat → Nat → Int32) (k : Nat) (g : Nat → Int32) : gSA f k g k = g := by simp [gSA]
theorem gSA_ne (f : Nat → Nat → Int32) {k a : Nat} (g : Nat → Int32) (h : a ≠ k) : gSA f k g a = f a := by simp [gSA, h]
theorem gW_set {κ : gK} {σ σ' : gST} {k : Nat} (e : va_E) (hk : k < gN) (he : e = gE κ σ' k) (ho : ∀ j, j < gN → j ≠ k → gE κ σ' j = gE κ σ j) : (gW κ σ).set k (κ.2.1 + k, e) = gW κ σ' := by
  apply List.ext_getElem?
  intro j
  rw [List.getElem?_set]
  by_cases hj : k = j
  · subst hj
    have hl : k < (gW κ σ).length := by unfold gW; rw [List.length_map, List.length_range]; exact hk
    rw [if_pos rfl, if_pos hl, gW_at hk, he]
  · rw [if_neg hj]
    rcases Nat.lt_or_ge j gN with h1 | h1
    · rw [gW_at h1, gW_at h1, ho j h1 (fun h => hj h.symm)]
    · rw [List.getElem?_eq_none (by unfold gW; rw [List.length_map, List.length_range]; exact h1), List.getElem?_eq_none (by unfold gW; rw [List.length_map, List.length_range]; exact h1)]
theorem gE_ne {κ : gK} {σ : gST} {k j : Nat} (g : Nat → Int32) (h : j ≠ k) : gE κ (gSA σ.1 k g, σ.2) j = gE κ σ j := by
  unfold gE
  simp only [gSA_ne σ.1 g h]
theorem gF_get {b : Nat} {f : Nat → Int32} : ∀ (fs : List (Option Nat)) (i k : Nat), (gF b f fs i)[k]? = (fs[k]?).map (fun r => match r with | some r => Value.ref (b + r) | none => .int (f (i + k)))
  | [], _, _ => by simp [gF]
  | some r :: t, i, 0 => by simp [gF]
  | none :: t, i, 0 => by simp [gF]
  | some r :: t, i, k + 1 => by
    rw [gF, List.getElem?_cons_succ, List.getElem?_cons_succ, gF_get t (i + 1) k, show i + 1 + k = i + (k + 1) by omega]
  | none :: t, i, k + 1 => by
    rw [gF, List.getElem?_cons_succ, List.getElem?_cons_succ, gF_get t (i + 1) k, show i + 1 + k = i + (k + 1) by omega]
theorem gF_set {b : Nat} {f : Nat → Int32} {v : Int32} : ∀ (fs : List (Option Nat)) (i k : Nat), fs[k]? = some none → (gF b f fs i).set k (.int v) = gF b (upd f (i + k) v) fs i := by
  intro fs i k h
  apply List.ext_getElem?
  intro j
  rw [List.getElem?_set, gF_get, gF_get]
  by_cases hj : k = j
  · subst hj
    have hl : k < (gF b f fs i).length := by
      rcases Nat.lt_or_ge k (gF b f fs i).length with h1 | h1
      · exact h1
      · have h2 := List.getElem?_eq_none h1
        rw [gF_get, h] at h2
        cases h2
    rw [if_pos rfl, if_pos hl, h]
    simp [upd]
  · rw [if_neg hj]
    cases hf : fs[j]? with
    | none => rfl
    | some r =>
      cases r with
      | some r => rfl
      | none =>
        simp only [Option.map_some]
        have h9 : ¬ j = k := fun h => hj h.symm
        simp [upd, h9]
/-! ===== what holds of the tables, at every method's start ===== -/
def gGood (w : Cond) : Bool := match w with
  | .castable _ _ => true
  | .declares _ => true
  | .fieldLinkNest _ _ _ _ _ _ => true
  | .methodLinkNest _ _ _ _ => true
  | w => goodWord w
def gTg : List Cond := lw_tbl.filter goodWord
def gG (κ : gK) (U : State) : Prop :=
  (∀ w ∈ lw_tbl, gGood w = true → w.before #[] U = true) ∧ va_K κ.2.2.1 gCl (gTys κ) U ∧ vx_Zq Bundle.tN "UNASSIGNED_STACK" Bundle.steD (gA κ) U U.heap ∧ vx_Zq Bundle.tN "SUPPRESSED_SENTINEL" Bundle.listD (gA κ) U U.heap ∧
  (∀ q ∈ gStr, ∃ a, vk_R RX10 q.1 q.2 a U) ∧ (∀ q ∈ gNcs, va_Nc q.1 q.2 U) ∧ va_X κ.2.2.2.2.1 κ.2.2.2.2.2.1 κ.2.2.2.2.2.2 U U.heap ∧ κ.2.2.2.2.1 < κ.2.1 ∧ κ.1.stackTraces = false
theorem gGood_of {w : Cond} (h : goodWord w = true) : gGood w = true := by
  unfold gGood
  split <;> first | rfl | exact h
theorem gGood_warm {s U : State} (hW : s.WarmedH U.vm) {w : Cond} (hg : gGood w = true) (h : w.before #[] s = true) : w.before #[] U = true := by
  unfold gGood at hg
  split at hg
  · exact va_Nw.warmC hW h
  · exact va_Nw.warmD hW h
  · exact va_Nw.warmF hW h
  · exact va_Nw.warmM hW h
  · exact word_at hW (good_of_word hg) h
theorem gG.moved {κ : gK} {s U : State} (h : gG κ s) (hW : s.WarmedH U.vm) (hq : ∀ a : Nat, a < s.heap.size → ¬ gA κ a → U.heap[a]? = s.heap[a]?) : gG κ U := by
  obtain ⟨h1, h2, h3, h4, h5, h6, h7, h8⟩ := h
  refine ⟨fun w hw hg => gGood_warm hW hg (h1 w hw hg), va_K.moved hW.alike h2, vx_Zq.moved hW.alike (h3.kept hq), vx_Zq.moved hW.alike (h4.kept hq), fun q hm => ?_, fun q hm => va_Nc.moved hW.alike (h6 q hm), va_X.moved hW.alike (h7.kept ?_), h8⟩
  · obtain ⟨a, ha⟩ := h5 q hm
    exact ⟨a, vk_R.warm hW ha⟩
  · obtain ⟨scr, e1, -⟩ := h7
    exact hq _ (Array.getElem?_eq_some_iff.mp e1).1 (Nat.not_le.mpr h8.1)
theorem gG.word {κ : gK} {s : State} {args : Array Value} (h : gG κ s) {w : Cond} (hw : w ∈ gTg) : w.before args s = true := by
  obtain ⟨h1, h2⟩ := List.mem_filter.mp hw
  exact word_at (State.WarmedH.refl s) (good_of_word h2) (h.1 w h1 (gGood_of h2))
theorem gG.word2 {κ : gK} {s : State} {args : Array Value} (h : gG κ s) {w : Cond} (hw : w ∈ lw_tbl) (hg : gGood w = true) : w.before args s = true := by
  have h1 := h.1 w hw hg
  unfold gGood at hg
  split at hg
  · exact va_tabs rfl rfl h1
  · exact va_tabs rfl rfl h1
  · exact va_tabs rfl rfl h1
  · exact va_tabs rfl rfl h1
  · exact word_at (State.WarmedH.refl s) (good_of_word hg) h1
theorem gG.nest {κ : gK} {s : State} (h : gG κ s) {w : Cond} (hw : w ∈ lw_tbl) (hg : gGood w = true) : va_Nw w s := h.1 w hw hg
/-- a word of the tables that every method may use -/
def gH (w : Cond) : Prop := w ∈ lw_tbl ∧ goodWord w = true
def gHn (w : Cond) : Prop := w ∈ lw_tbl ∧ gGood w = true
theorem gH.tg {w : Cond} (h : gH w) : w ∈ gTg := List.mem_filter.mpr h
theorem gH.good {w : Cond} (h : gH w) : w ∈ gTg ∧ ((w.onTables && w.keeps) = true ∨ ∃ ty, w = .arrayClass ty) := ⟨h.tg, good_of_word h.2⟩
theorem gTg_good : ∀ w ∈ gTg, w ∈ gTg ∧ ((w.onTables && w.keeps) = true ∨ ∃ ty, w = .arrayClass ty) := fun w hw => ⟨hw, good_of_word (List.mem_filter.mp hw).2⟩
/-! ===== contracts ===== -/
abbrev gRm (d k : Nat) : Room := { frames := d, cells := k, slots := 6 * k, locals := 64 * d }
def gCw (M : gM) : Cond := match M.2.2.2.2 with
  | [] => .code M.1 M.2.1 M.2.2.1 M.2.2.2.1
  | hh => .codeWith M.1 M.2.1 M.2.2.1 M.2.2.2.1 hh
def gWs (M : gM) : List Cond := gCw M :: gTg
def gQ (κ : gK) (o : gO) (σ : gST) : Array Value → State → Outcome → State → Prop := fun _ st oc t => (∃ v, o = .inl v ∧ oc = .returned v) ∧ gP κ σ t.heap ∧ va_F (gA κ) st t
def gXq (κ : gK) (o : gO) (σ : gST) : String → State → State → Prop := fun E st t => o = .inr E ∧ gP κ σ t.heap ∧ va_F (gA κ) st t
def gPc (κ : gK) (As : List Value) (σ : gST) : Array Value → State → Prop := va_Pc As (fun U => gG κ U ∧ gP κ σ U.heap)
/-- THE CONTRACT of method M at depth d: with these arguments, in this world, it comes to that outcome and world, with k exceptions made -/
def gCt (κ : gK) (M : gM) (d : Nat) (As : List Value) (σ : gST) (o : gO) (σ' : gST) (k : Nat) : Prop :=
  vx_Met κ.1 M.1 (gWs M) (gRm d k) (gPc κ As σ) (gQ κ o σ') (gXq κ o σ') k (6 * k) (gA κ)
def gCx (κ : gK) (M : gM) (p : Program) (s : State) (m : MethodId) (meth : Method) (c : Code) : Prop :=
  p.tables.exec = Jvm.exec ∧ c.code = M.2.1 ∧ meth.sig.returnType = M.2.2.2.1 ∧ c.maxLocals = M.2.2.1 ∧ s.vm.findClass M.1.cls = some m.cls ∧ meth.locks = false ∧ c.exceptionTable.toList = tableOf M.2.2.2.2 ∧ gG κ s
abbrev gZ : Type := List Frame → Array Value → State → State → Prop
/-- THE WALK: from pc, with these locals, this stack, in this world, n exceptions made so far, the machine comes to Z -/
def Go (κ : gK) (M : gM) (R : Room) (Z : gZ) (pc : Nat) (L : gL) (st : List Value) (σ : gST) (n : Nat) : Prop :=
  ∀ (p : Program) (e : Env) (s : State) (m : MethodId) (args : Array Value) (below : List Frame) (meth : Method) (c : Code) (H : Heap) (locs : List Loc) (ls : Array Slot),
    gCx κ M p s m meth c → gP κ σ H → va_S (gA κ) s.heap H locs → lv_has ls M.2.2.1 L →
    W p κ.1 e R s m args below meth c H locs n (6 * n) (Z below args s) (F0 m pc ls st)
def gZm (κ : gK) (o : gO) (σ' : gST) (k : Nat) : gZ := fun below args s => vx_MQ below (gQ κ o σ') (gXq κ o σ') args s k (6 * k) (gA κ)
theorem gG.moveA {κ : gK} {s U : State} (h : gG κ s) {H : Heap} {locs : List Loc} (hS : va_S (gA κ) s.heap H locs) (hU : U.heap = H) (hW : s.WarmedH U.vm) : gG κ U :=
  h.moved hW (fun a h1 h2 => by rw [hU]; exact hS.2.1 a h1 h2)
theorem gPc_blind (κ : gK) (As : List Value) (σ : gST) : FrameBlind (gPc κ As σ) := by
  intro a U g mk ⟨h1, h2, h3⟩
  exact ⟨h1, h2.moved (U := U.calling g mk a) (State.WarmedH.refl U) (fun _ _ _ => rfl), h3⟩
theorem gWsPay {M : gM} : gWs M = gCw M :: gTg := rfl
/-- a method's body, from its first instruction -/
theorem ct_of {κ : gK} {M : gM} {d : Nat} {As : List Value} {σ σ' : gST} {o : gO} {k : Nat} {L : gL} (hy : plainName M.1.cls = true) (hh : M.2.2.2.2 = []) (hn : (lg_sl As).length ≤ M.2.2.1) (hL : lv_args 0 As = L)
    (body : Go κ M (gRm d k) (gZm κ o σ' k) 0 L [] σ 0) : gCt κ M d As σ o σ' k := by
  subst hL
  obtain ⟨y, cc, maxL, ret, hs⟩ := M
  dsimp only at hh hn hy
  subst hh
  refine vx_ofW (cc := cc) (maxL := maxL) (ret := ret) (ws' := gTg) hy rfl ?_
  intro p e s m args below meth c s₁ B hml htab hv
  obtain ⟨rfl, hG, hP⟩ := hv
  have hown : s.vm.findClass y.cls = some m.cls := findClass_of_methodNamed B.named
  have htb : c.exceptionTable.toList = tableOf [] := by
    cases h : c.exceptionTable.toList with
    | nil => rfl
    | cons x t => exact (htab x (by rw [h]; exact List.mem_cons_self)).elim
  rw [lg_entry_eq]
  exact body p e s m As.toArray below meth c s.heap [] _ ⟨B.exec, B.bytes, B.returns, hml, hown, B.notSynchronized, htb, hG⟩ hP va_S.rf (lv_entry As hn)
/-- .. of a method with a table of handlers -/
theorem ct_ofH {κ : gK} {M : gM} {d : Nat} {As : List Value} {σ σ' : gST} {o : gO} {k : Nat} {L : gL} (hy : plainName M.1.cls = true) {x : Nat × Nat × Nat × Nat} {xs : List (Nat × Nat × Nat × Nat)} (hh : M.2.2.2.2 = x :: xs) (hn : (lg_sl As).length ≤ M.2.2.1) (hL : lv_args 0 As = L)
    (body : Go κ M (gRm d k) (gZm κ o σ' k) 0 L [] σ 0) : gCt κ M d As σ o σ' k := by
  subst hL
  obtain ⟨y, cc, maxL, ret, hs⟩ := M
  dsimp only at hh hn hy
  subst hh
  refine vx_ofWH (cc := cc) (maxL := maxL) (ret := ret) (hh := x :: xs) (ws' := gTg) hy rfl ?_
  intro p e s m args below meth c s₁ B hml hv
  obtain ⟨rfl, hG, hP⟩ := hv
  have hown : s.vm.findClass y.cls = some m.cls := findClass_of_methodNamed B.named
  have hts := atoms_spec (ws := gWs (y, cc, maxL, ret, x :: xs)) B.pre
  have htb : c.exceptionTable.toList = tableOf (x :: xs) := vx_table (x := y) B (hts (Cond.codeWith y cc maxL ret (x :: xs)) List.mem_cons_self)
  rw [lg_entry_eq]
  exact body p e s m As.toArray below meth c s.heap [] _ ⟨B.exec, B.bytes, B.returns, hml, hown, B.notSynchronized, htb, hG⟩ hP va_S.rf (lv_entry As hn)
/-! ===== locals ===== -/
def gAt : gL → Nat → Option Value
  | [], _ => none
  | q :: t, i => bif Nat.beq q.1 i then some q.2 else gAt t i
theorem gAt_mem : ∀ {L : gL} {i : Nat} {v : Value}, gAt L i = some v → (i, v) ∈ L
  | [], _, _, h => by cases h
  | q :: t, i, v, h => by
    unfold gAt at h
    cases hb : Nat.beq q.1 i with
    | true =>
      rw [hb] at h
      have h1 : q.2 = v := Option.some.inj h
      have h2 : q.1 = i := Nat.eq_of_beq_eq_true hb
      rw [← h1, ← h2]
      exact List.mem_cons_self
    | false =>
      rw [hb] at h
      exact List.mem_cons_of_mem _ (gAt_mem h)
theorem gAt_has {ls : Array Slot} {n : Nat} {L : gL} {i : Nat} {v : Value} (h : lv_has ls n L) (hl : gAt L i = some v) : ls[i]? = some (.val v) := h.2.2 (i, v) (gAt_mem hl)
def gS1 (i : Nat) (v : Value) (L : gL) : gL := (i, v) :: L.filter (fun q => !(q.1 == i) && !(q.1 + 1 == i && q.2.category == 2))
def gS2 (i : Nat) (v : Value) (L : gL) : gL := (i, v) :: L.filter (fun q => !(q.1 == i) && (!(q.1 == i + 1) && !(q.1 + 1 == i && q.2.category == 2)))
def gSub (L : gL) : gL → Prop
  | [] => True
  | q :: t => gAt L q.1 = some q.2 ∧ gSub L t
theorem gSub_has {ls : Array Slot} {n : Nat} {L : gL} (h : lv_has ls n L) : ∀ {L' : gL}, gSub L L' → lv_has ls n L'
  | [], _ => ⟨h.1, h.2.1, fun q hq => by cases hq⟩
  | q :: t, hs => by
    have h1 := gSub_has h hs.2
    refine ⟨h.1, h.2.1, fun r hr => ?_⟩
    rcases List.mem_cons.mp hr with e | e
    · subst e
      exact gAt_has h hs.1
    · exact h1.2.2 r e
/-! ===== the rows of the walk ===== -/
theorem vp_in1 {i : Int32} (hi : vp_in i 1) : i.toNatClampNeg = 0 := by
  have h1 := Nat.not_le.mp (fun h => hi (Or.inr h))
  omega
theorem gSh_kinds : ∀ j, j < gN → (match gSh j with | .inr (2, _) => j = 390 | .inr (3, _) => j = 391 | _ => True) := by
  have h : ∀ j, j < gN → (match gSh j with | .inr (2, _) => decide (j = 390) | .inr (3, _) => decide (j = 391) | _ => true) = true := by decide +kernel
  intro j hj
  have h1 := h j hj
  split
  · rename_i h2; rw [h2] at h1; exact of_decide_eq_true h1
  · rename_i h2; rw [h2] at h1; exact of_decide_eq_true h1
  · trivial
section GO
variable {κ : gK} {M : gM} {R : Room} {Z : gZ} {pc q : Nat} {L : gL} {st : List Value} {σ : gST} {n : Nat}
theorem go_sub {L' : gL} (h : gSub L L') (kk : Go κ M R Z pc L' st σ n) : Go κ M R Z pc L st σ n := by
  intro p e s m args below meth c H locs ls C hP hS hl
  exact kk p e s m args below meth c H locs ls C hP hS (gSub_has hl h)
theorem go_st {st' : List Value} (h : st = st') (kk : Go κ M R Z pc L st' σ n) : Go κ M R Z pc L st σ n := h ▸ kk
theorem go_w {σ' : gST} (h : σ = σ') (kk : Go κ M R Z pc L st σ' n) : Go κ M R Z pc L st σ n := h ▸ kk
theorem go_iconst {z : Int} {v : Int32} (hd : decode M.2.1 pc = .ok (.iconst z, 1)) (hv : Int32.ofInt z = v) (hq : pc + 1 = q) (kk : Go κ M R Z q L (.int v :: st) σ n) : Go κ M R Z pc L (st) σ n := by
  subst hq
  intro p e s m args below meth c H locs ls C hP hS hl
  exact lv_iconst C.1 C.2.1 hd hv (kk p e s m args below meth c H locs ls C hP hS hl)
theorem go_bipush {z : Int} {v : Int32} (hd : decode M.2.1 pc = .ok (.bipush z, 2)) (hv : (Int8.ofInt z).toInt32 = v) (hq : pc + 2 = q) (kk : Go κ M R Z q L (.int v :: st) σ n) : Go κ M R Z pc L (st) σ n := by
  subst hq
  intro p e s m args below meth c H locs ls C hP hS hl
  exact lv_bipush C.1 C.2.1 hd hv (kk p e s m args below meth c H locs ls C hP hS hl)
theorem go_sipush {z : Int} {v : Int32} (hd : decode M.2.1 pc = .ok (.sipush z, 3)) (hv : (Int16.ofInt z).toInt32 = v) (hq : pc + 3 = q) (kk : Go κ M R Z q L (.int v :: st) σ n) : Go κ M R Z pc L (st) σ n := by
  subst hq
  intro p e s m args below meth c H locs ls C hP hS hl
  exact lv_sipush C.1 C.2.1 hd hv (kk p e s m args below meth c H locs ls C hP hS hl)
theorem go_lconst {z : Fin 2} {v : Int64} (hd : decode M.2.1 pc = .ok (.lconst z, 1)) (hv : Int64.ofNat (z : Nat) = v) (hq : pc + 1 = q) (kk : Go κ M R Z q L (.long v :: st) σ n) : Go κ M R Z pc L (st) σ n := by
  subst hq
  intro p e s m args below meth c H locs ls C hP hS hl
  exact lv_lconst C.1 C.2.1 hd hv (kk p e s m args below meth c H locs ls C hP hS hl)
theorem go_iload_n {z : Fin 4} {i : Nat} {x : Int32} (hd : decode M.2.1 pc = .ok (.iload_n z, 1)) (hi : (z : Nat) = i) (hx : gAt L i = some (.int x)) (hq : pc + 1 = q) (kk : Go κ M R Z q L (.int x :: st) σ n) : Go κ M R Z pc L (st) σ n := by
  subst hq
  intro p e s m args below meth c H locs ls C hP hS hl
  exact lv_iload_n C.1 C.2.1 hd hi (gAt_has hl hx) (kk p e s m args below meth c H locs ls C hP hS hl)
theorem go_iload {i : Nat} {x : Int32} (hd : decode M.2.1 pc = .ok (.iload i, 2)) (hx : gAt L i = some (.int x)) (hq : pc + 2 = q) (kk : Go κ M R Z q L (.int x :: st) σ n) : Go κ M R Z pc L (st) σ n := by
  subst hq
  intro p e s m args below meth c H locs ls C hP hS hl
  exact lv_iload C.1 C.2.1 hd (gAt_has hl hx) (kk p e s m args below meth c H locs ls C hP hS hl)
theorem go_lload_n {z : Fin 4} {i : Nat} {x : Int64} (hd : decode M.2.1 pc = .ok (.lload_n z, 1)) (hi : (z : Nat) = i) (hx : gAt L i = some (.long x)) (hq : pc + 1 = q) (kk : Go κ M R Z q L (.long x :: st) σ n) : Go κ M R Z pc L (st) σ n := by
  subst hq
  intro p e s m args below meth c H locs ls C hP hS hl
  exact lv_lload_n C.1 C.2.1 hd hi (gAt_has hl hx) (kk p e s m args below meth c H locs ls C hP hS hl)
theorem go_lload {i : Nat} {x : Int64} (hd : decode M.2.1 pc = .ok (.lload i, 2)) (hx : gAt L i = some (.long x)) (hq : pc + 2 = q) (kk : Go κ M R Z q L (.long x :: st) σ n) : Go κ M R Z pc L (st) σ n := by
  subst hq
  intro p e s m args below meth c H locs ls C hP hS hl
  exact lv_lload C.1 C.2.1 hd (gAt_has hl hx) (kk p e s m args below meth c H locs ls C hP hS hl)
theorem go_aload_n {z : Fin 4} {i : Nat} {x : Nat} (hd : decode M.2.1 pc = .ok (.aload_n z, 1)) (hi : (z : Nat) = i) (hx : gAt L i = some (.ref x)) (hq : pc + 1 = q) (kk : Go κ M R Z q L (.ref x :: st) σ n) : Go κ M R Z pc L (st) σ n := by
  subst hq
  intro p e s m args below meth c H locs ls C hP hS hl
  exact lv_aload_n C.1 C.2.1 hd hi (gAt_has hl hx) (kk p e s m args below meth c H locs ls C hP hS hl)
theorem go_aload {i : Nat} {x : Nat} (hd : decode M.2.1 pc = .ok (.aload i, 2)) (hx : gAt L i = some (.ref x)) (hq : pc + 2 = q) (kk : Go κ M R Z q L (.ref x :: st) σ n) : Go κ M R Z pc L (st) σ n := by
  subst hq
  intro p e s m args below meth c H locs ls C hP hS hl
  exact lv_aload C.1 C.2.1 hd (gAt_has hl hx) (kk p e s m args below meth c H locs ls C hP hS hl)
theorem go_dload {i : Nat} {x : UInt64} (hd : decode M.2.1 pc = .ok (.dload i, 2)) (hx : gAt L i = some (.double x)) (hq : pc + 2 = q) (kk : Go κ M R Z q L (.double x :: st) σ n) : Go κ M R Z pc L (st) σ n := by
  subst hq
  intro p e s m args below meth c H locs ls C hP hS hl
  exact lv_dload C.1 C.2.1 hd (gAt_has hl hx) (kk p e s m args below meth c H locs ls C hP hS hl)
theorem go_istore_n {z : Fin 4} {i : Nat} {x : Int32} (hd : decode M.2.1 pc = .ok (.istore_n z, 1)) (hi : (z : Nat) = i) (hn : i < M.2.2.1) (hq : pc + 1 = q) (kk : Go κ M R Z q (gS1 i (.int x) L) st σ n) : Go κ M R Z pc L (.int x :: st) σ n := by
  subst hq
  intro p e s m args below meth c H locs ls C hP hS hl
  exact lv_istore_n C.1 C.2.1 hd hi hl hn rfl (fun ls' hl' => kk p e s m args below meth c H locs ls' C hP hS hl')
theorem go_istore {i : Nat} {x : Int32} (hd : decode M.2.1 pc = .ok (.istore i, 2)) (hn : i < M.2.2.1) (hq : pc + 2 = q) (kk : Go κ M R Z q (gS1 i (.int x) L) st σ n) : Go κ M R Z pc L (.int x :: st) σ n := by
  subst hq
  intro p e s m args below meth c H locs ls C hP hS hl
  exact lv_istore C.1 C.2.1 hd hl hn rfl (fun ls' hl' => kk p e s m args below meth c H locs ls' C hP hS hl')
theorem go_lstore_n {z : Fin 4} {i : Nat} {x : Int64} (hd : decode M.2.1 pc = .ok (.lstore_n z, 1)) (hi : (z : Nat) = i) (hn : i + 1 < M.2.2.1) (hq : pc + 1 = q) (kk : Go κ M R Z q (gS2 i (.long x) L) st σ n) : Go κ M R Z pc L (.long x :: st) σ n := by
  subst hq
  intro p e s m args below meth c H locs ls C hP hS hl
  exact lv_lstore_n C.1 C.2.1 hd hi hl hn rfl (fun ls' hl' => kk p e s m args below meth c H locs ls' C hP hS hl')
theorem go_lstore {i : Nat} {x : Int64} (hd : decode M.2.1 pc = .ok (.lstore i, 2)) (hn : i + 1 < M.2.2.1) (hq : pc + 2 = q) (kk : Go κ M R Z q (gS2 i (.long x) L) st σ n) : Go κ M R Z pc L (.long x :: st) σ n := by
  subst hq
  intro p e s m args below meth c H locs ls C hP hS hl
  exact lv_lstore C.1 C.2.1 hd hl hn rfl (fun ls' hl' => kk p e s m args below meth c H locs ls' C hP hS hl')
theorem go_astore_n {z : Fin 4} {i : Nat} {x : Nat} (hd : decode M.2.1 pc = .ok (.astore_n z, 1)) (hi : (z : Nat) = i) (hn : i < M.2.2.1) (hq : pc + 1 = q) (kk : Go κ M R Z q (gS1 i (.ref x) L) st σ n) : Go κ M R Z pc L (.ref x :: st) σ n := by
  subst hq
  intro p e s m args below meth c H locs ls C hP hS hl
  exact lv_astore_n C.1 C.2.1 hd hi hl hn rfl (fun ls' hl' => kk p e s m args below meth c H locs ls' C hP hS hl')
theorem go_astore {i : Nat} {x : Nat} (hd : decode M.2.1 pc = .ok (.astore i, 2)) (hn : i < M.2.2.1) (hq : pc + 2 = q) (kk : Go κ M R Z q (gS1 i (.ref x) L) st σ n) : Go κ M R Z pc L (.ref x :: st) σ n := by
  subst hq
  intro p e s m args below meth c H locs ls C hP hS hl
  exact lv_astore C.1 C.2.1 hd hl hn rfl (fun ls' hl' => kk p e s m args below meth c H locs ls' C hP hS hl')
theorem go_dstore {i : Nat} {x : UInt64} (hd : decode M.2.1 pc = .ok (.dstore i, 2)) (hn : i + 1 < M.2.2.1) (hq : pc + 2 = q) (kk : Go κ M R Z q (gS2 i (.double x) L) st σ n) : Go κ M R Z pc L (.double x :: st) σ n := by
  subst hq
  intro p e s m args below meth c H locs ls C hP hS hl
  exact lv_dstore C.1 C.2.1 hd hl hn rfl (fun ls' hl' => kk p e s m args below meth c H locs ls' C hP hS hl')
theorem go_iinc {i : Nat} {z : Int} {x v : Int32} (hd : decode M.2.1 pc = .ok (.iinc i z, 3)) (hx : gAt L i = some (.int x)) (hv : x + Int32.ofInt z = v) (hn : i < M.2.2.1) (hq : pc + 3 = q) (kk : Go κ M R Z q (gS1 i (.int v) L) st σ n) : Go κ M R Z pc L st σ n := by
  subst hq
  intro p e s m args below meth c H locs ls C hP hS hl
  obtain ⟨k, hk⟩ := List.getElem?_of_mem (gAt_mem hx)
  exact lv_iinc C.1 C.2.1 hd hl hk hv hn rfl (fun ls' hl' => kk p e s m args below meth c H locs ls' C hP hS hl')
theorem go_iadd {x y : Int32} (hd : decode M.2.1 pc = .ok (.iadd, 1)) (hq : pc + 1 = q) (kk : Go κ M R Z q L (.int (x + y) :: st) σ n) : Go κ M R Z pc L (.int y :: .int x :: st) σ n := by
  subst hq
  intro p e s m args below meth c H locs ls C hP hS hl
  exact lv_iadd C.1 C.2.1 hd (kk p e s m args below meth c H locs ls C hP hS hl)
theorem go_isub {x y : Int32} (hd : decode M.2.1 pc = .ok (.isub, 1)) (hq : pc + 1 = q) (kk : Go κ M R Z q L (.int (x - y) :: st) σ n) : Go κ M R Z pc L (.int y :: .int x :: st) σ n := by
  subst hq
  intro p e s m args below meth c H locs ls C hP hS hl
  exact lv_isub C.1 C.2.1 hd (kk p e s m args below meth c H locs ls C hP hS hl)
theorem go_imul {x y : Int32} (hd : decode M.2.1 pc = .ok (.imul, 1)) (hq : pc + 1 = q) (kk : Go κ M R Z q L (.int (x * y) :: st) σ n) : Go κ M R Z pc L (.int y :: .int x :: st) σ n := by
  subst hq
  intro p e s m args below meth c H locs ls C hP hS hl
  exact lv_imul C.1 C.2.1 hd (kk p e s m args below meth c H locs ls C hP hS hl)
theorem go_iand {x y : Int32} (hd : decode M.2.1 pc = .ok (.iand, 1)) (hq : pc + 1 = q) (kk : Go κ M R Z q L (.int (x &&& y) :: st) σ n) : Go κ M R Z pc L (.int y :: .int x :: st) σ n := by
  subst hq
  intro p e s m args below meth c H locs ls C hP hS hl
  exact lv_iand C.1 C.2.1 hd (kk p e s m args below meth c H locs ls C hP hS hl)
theorem go_ior {x y : Int32} (hd : decode M.2.1 pc = .ok (.ior, 1)) (hq : pc + 1 = q) (kk : Go κ M R Z q L (.int (x ||| y) :: st) σ n) : Go κ M R Z pc L (.int y :: .int x :: st) σ n := by
  subst hq
  intro p e s m args below meth c H locs ls C hP hS hl
  exact lv_ior C.1 C.2.1 hd (kk p e s m args below meth c H locs ls C hP hS hl)
theorem go_ixor {x y : Int32} (hd : decode M.2.1 pc = .ok (.ixor, 1)) (hq : pc + 1 = q) (kk : Go κ M R Z q L (.int (x ^^^ y) :: st) σ n) : Go κ M R Z pc L (.int y :: .int x :: st) σ n := by
  subst hq
  intro p e s m args below meth c H locs ls C hP hS hl
  exact lv_ixor C.1 C.2.1 hd (kk p e s m args below meth c H locs ls C hP hS hl)
theorem go_idiv {x y : Int32} (hd : decode M.2.1 pc = .ok (.idiv, 1)) (hne : ¬ y = 0) (hq : pc + 1 = q) (kk : Go κ M R Z q L (.int (x / y) :: st) σ n) : Go κ M R Z pc L (.int y :: .int x :: st) σ n := by
  subst hq
  intro p e s m args below meth c H locs ls C hP hS hl
  exact lv_idiv C.1 C.2.1 hd hne (kk p e s m args below meth c H locs ls C hP hS hl)
theorem go_irem {x y : Int32} (hd : decode M.2.1 pc = .ok (.irem, 1)) (hne : ¬ y = 0) (hq : pc + 1 = q) (kk : Go κ M R Z q L (.int (x - x / y * y) :: st) σ n) : Go κ M R Z pc L (.int y :: .int x :: st) σ n := by
  subst hq
  intro p e s m args below meth c H locs ls C hP hS hl
  exact lv_irem C.1 C.2.1 hd hne (kk p e s m args below meth c H locs ls C hP hS hl)
theorem go_ineg {x : Int32} (hd : decode M.2.1 pc = .ok (.ineg, 1)) (hq : pc + 1 = q) (kk : Go κ M R Z q L (.int (-x) :: st) σ n) : Go κ M R Z pc L (.int x :: st) σ n := by
  subst hq
  intro p e s m args below meth c H locs ls C hP hS hl
  exact lv_ineg C.1 C.2.1 hd (kk p e s m args below meth c H locs ls C hP hS hl)
theorem go_ladd {x y : Int64} (hd : decode M.2.1 pc = .ok (.ladd, 1)) (hq : pc + 1 = q) (kk : Go κ M R Z q L (.long (x + y) :: st) σ n) : Go κ M R Z pc L (.long y :: .long x :: st) σ n := by
  subst hq
  intro p e s m args below meth c H locs ls C hP hS hl
  exact lv_ladd C.1 C.2.1 hd (kk p e s m args below meth c H locs ls C hP hS hl)
theorem go_lsub {x y : Int64} (hd : decode M.2.1 pc = .ok (.lsub, 1)) (hq : pc + 1 = q) (kk : Go κ M R Z q L (.long (x - y) :: st) σ n) : Go κ M R Z pc L (.long y :: .long x :: st) σ n := by
  subst hq
  intro p e s m args below meth c H locs ls C hP hS hl
  exact lv_lsub C.1 C.2.1 hd (kk p e s m args below meth c H locs ls C hP hS hl)
theorem go_lmul {x y : Int64} (hd : decode M.2.1 pc = .ok (.lmul, 1)) (hq : pc + 1 = q) (kk : Go κ M R Z q L (.long (x * y) :: st) σ n) : Go κ M R Z pc L (.long y :: .long x :: st) σ n := by
  subst hq
  intro p e s m args below meth c H locs ls C hP hS hl
  exact lv_lmul C.1 C.2.1 hd (kk p e s m args below meth c H locs ls C hP hS hl)
theorem go_land {x y : Int64} (hd : decode M.2.1 pc = .ok (.land, 1)) (hq : pc + 1 = q) (kk : Go κ M R Z q L (.long (x &&& y) :: st) σ n) : Go κ M R Z pc L (.long y :: .long x :: st) σ n := by
  subst hq
  intro p e s m args below meth c H locs ls C hP hS hl
  exact lv_land C.1 C.2.1 hd (kk p e s m args below meth c H locs ls C hP hS hl)
theorem go_lor {x y : Int64} (hd : decode M.2.1 pc = .ok (.lor, 1)) (hq : pc + 1 = q) (kk : Go κ M R Z q L (.long (x ||| y) :: st) σ n) : Go κ M R Z pc L (.long y :: .long x :: st) σ n := by
  subst hq
  intro p e s m args below meth c H locs ls C hP hS hl
  exact lv_lor C.1 C.2.1 hd (kk p e s m args below meth c H locs ls C hP hS hl)
theorem go_lxor {x y : Int64} (hd : decode M.2.1 pc = .ok (.lxor, 1)) (hq : pc + 1 = q) (kk : Go κ M R Z q L (.long (x ^^^ y) :: st) σ n) : Go κ M R Z pc L (.long y :: .long x :: st) σ n := by
  subst hq
  intro p e s m args below meth c H locs ls C hP hS hl
  exact lv_lxor C.1 C.2.1 hd (kk p e s m args below meth c H locs ls C hP hS hl)
theorem go_i2l {x : Int32} (hd : decode M.2.1 pc = .ok (.i2l, 1)) (hq : pc + 1 = q) (kk : Go κ M R Z q L (.long x.toInt64 :: st) σ n) : Go κ M R Z pc L (.int x :: st) σ n := by
  subst hq
  intro p e s m args below meth c H locs ls C hP hS hl
  exact lv_i2l C.1 C.2.1 hd rfl (kk p e s m args below meth c H locs ls C hP hS hl)
theorem go_l2i {x : Int64} (hd : decode M.2.1 pc = .ok (.l2i, 1)) (hq : pc + 1 = q) (kk : Go κ M R Z q L (.int x.toInt32 :: st) σ n) : Go κ M R Z pc L (.long x :: st) σ n := by
  subst hq
  intro p e s m args below meth c H locs ls C hP hS hl
  exact lv_l2i C.1 C.2.1 hd rfl (kk p e s m args below meth c H locs ls C hP hS hl)
theorem go_i2c {x : Int32} (hd : decode M.2.1 pc = .ok (.i2c, 1)) (hq : pc + 1 = q) (kk : Go κ M R Z q L (.int (x.toUInt32 % 65536).toInt32 :: st) σ n) : Go κ M R Z pc L (.int x :: st) σ n := by
  subst hq
  intro p e s m args below meth c H locs ls C hP hS hl
  exact lv_i2c C.1 C.2.1 hd rfl (kk p e s m args below meth c H locs ls C hP hS hl)
theorem go_i2d {x : Int32} (hd : decode M.2.1 pc = .ok (.i2d, 1)) (hq : pc + 1 = q) (kk : Go κ M R Z q L (.double (FP.i2d x) :: st) σ n) : Go κ M R Z pc L (.int x :: st) σ n := by
  subst hq
  intro p e s m args below meth c H locs ls C hP hS hl
  exact lv_i2d C.1 C.2.1 hd (kk p e s m args below meth c H locs ls C hP hS hl)
theorem go_ddiv {x y : UInt64} (hd : decode M.2.1 pc = .ok (.ddiv, 1)) (hne : vf_n64 (FP.ddiv x y)) (hq : pc + 1 = q) (kk : Go κ M R Z q L (.double (FP.ddiv x y) :: st) σ n) : Go κ M R Z pc L (.double y :: .double x :: st) σ n := by
  subst hq
  intro p e s m args below meth c H locs ls C hP hS hl
  exact lv_ddiv C.1 C.2.1 hd hne (kk p e s m args below meth c H locs ls C hP hS hl)
theorem go_dcmp {x y : UInt64} {op : CmpOp} (hd : decode M.2.1 pc = .ok (.dcmp op, 1)) (hq : pc + 1 = q) (kk : Go κ M R Z q L (.int (Op.cmpValue (FP.dcmp x y) op) :: st) σ n) : Go κ M R Z pc L (.double y :: .double x :: st) σ n := by
  subst hq
  intro p e s m args below meth c H locs ls C hP hS hl
  exact lv_dcmp C.1 C.2.1 hd (kk p e s m args below meth c H locs ls C hP hS hl)
theorem go_lcmp {x y : Int64} (hd : decode M.2.1 pc = .ok (.lcmp, 1)) (hq : pc + 1 = q) (kk : Go κ M R Z q L (.int (lg_cmp x y) :: st) σ n) : Go κ M R Z pc L (.long y :: .long x :: st) σ n := by
  subst hq
  intro p e s m args below meth c H locs ls C hP hS hl
  exact W.lcmp C.1 C.2.1 hd (kk p e s m args below meth c H locs ls C hP hS hl)
theorem go_lushr {x : Int64} {y : Int32} (hd : decode M.2.1 pc = .ok (.lushr, 1)) (hq : pc + 1 = q) (kk : Go κ M R Z q L (.long (x.toUInt64 >>> (y.toInt64.toUInt64 &&& Int64.toUInt64 63)).toInt64 :: st) σ n) : Go κ M R Z pc L (.int y :: .long x :: st) σ n := by
  subst hq
  intro p e s m args below meth c H locs ls C hP hS hl
  exact lv_lushr C.1 C.2.1 hd rfl (kk p e s m args below meth c H locs ls C hP hS hl)
theorem go_lshl {x : Int64} {y : Int32} (hd : decode M.2.1 pc = .ok (.lshl, 1)) (hq : pc + 1 = q) (kk : Go κ M R Z q L (.long (x <<< (y.toInt64 &&& 63)) :: st) σ n) : Go κ M R Z pc L (.int y :: .long x :: st) σ n := by
  subst hq
  intro p e s m args below meth c H locs ls C hP hS hl
  exact lv_lshl C.1 C.2.1 hd rfl (kk p e s m args below meth c H locs ls C hP hS hl)
theorem go_dup {v : Value} (hd : decode M.2.1 pc = .ok (.dup, 1)) (hv : v.category = 1) (hq : pc + 1 = q) (kk : Go κ M R Z q L (v :: v :: st) σ n) : Go κ M R Z pc L (v :: st) σ n := by
  subst hq
  intro p e s m args below meth c H locs ls C hP hS hl
  exact lv_dup C.1 C.2.1 hd hv (kk p e s m args below meth c H locs ls C hP hS hl)
theorem go_pop {v : Value} (hd : decode M.2.1 pc = .ok (.pop, 1)) (hv : v.category = 1) (hq : pc + 1 = q) (kk : Go κ M R Z q L (st) σ n) : Go κ M R Z pc L (v :: st) σ n := by
  subst hq
  intro p e s m args below meth c H locs ls C hP hS hl
  exact lv_pop C.1 C.2.1 hd hv (kk p e s m args below meth c H locs ls C hP hS hl)
theorem go_dup2 {v u : Value} (hd : decode M.2.1 pc = .ok (.dup2, 1)) (hv : v.category = 1) (hu : u.category = 1) (hq : pc + 1 = q) (kk : Go κ M R Z q L (v :: u :: v :: u :: st) σ n) : Go κ M R Z pc L (v :: u :: st) σ n := by
  subst hq
  intro p e s m args below meth c H locs ls C hP hS hl
  exact lv_dup2_11 C.1 C.2.1 hd hv hu (kk p e s m args below meth c H locs ls C hP hS hl)
theorem go_if_eq {x : Int32} {off : Int} {t : Nat} (hd : decode M.2.1 pc = .ok (.ifCond .eq off, 3)) (ht : (pc : Int) + off = (t : Int)) (hq : pc + 3 = q) (kt : x = 0 → Go κ M R Z t L st σ n) (kf : ¬ (x = 0) → Go κ M R Z q L st σ n) : Go κ M R Z pc L (.int x :: st) σ n := by
  subst hq
  intro p e s m args below meth c H locs ls C hP hS hl
  exact lv_if_eq C.1 C.2.1 hd ht (fun h => kt h p e s m args below meth c H locs ls C hP hS hl) (fun h => kf h p e s m args below meth c H locs ls C hP hS hl)
theorem go_icmp_eq {x y : Int32} {off : Int} {t : Nat} (hd : decode M.2.1 pc = .ok (.if_icmp .eq off, 3)) (ht : (pc : Int) + off = (t : Int)) (hq : pc + 3 = q) (kt : x = y → Go κ M R Z t L st σ n) (kf : ¬ (x = y) → Go κ M R Z q L st σ n) : Go κ M R Z pc L (.int y :: .int x :: st) σ n := by
  subst hq
  intro p e s m args below meth c H locs ls C hP hS hl
  exact lv_icmp_eq C.1 C.2.1 hd ht (fun h => kt h p e s m args below meth c H locs ls C hP hS hl) (fun h => kf h p e s m args below meth c H locs ls C hP hS hl)
theorem go_if_ne {x : Int32} {off : Int} {t : Nat} (hd : decode M.2.1 pc = .ok (.ifCond .ne off, 3)) (ht : (pc : Int) + off = (t : Int)) (hq : pc + 3 = q) (kt : ¬ x = 0 → Go κ M R Z t L st σ n) (kf : x = 0 → Go κ M R Z q L st σ n) : Go κ M R Z pc L (.int x :: st) σ n := by
  subst hq
  intro p e s m args below meth c H locs ls C hP hS hl
  exact lv_if_ne C.1 C.2.1 hd ht (fun h => kt h p e s m args below meth c H locs ls C hP hS hl) (fun h => kf h p e s m args below meth c H locs ls C hP hS hl)
theorem go_icmp_ne {x y : Int32} {off : Int} {t : Nat} (hd : decode M.2.1 pc = .ok (.if_icmp .ne off, 3)) (ht : (pc : Int) + off = (t : Int)) (hq : pc + 3 = q) (kt : ¬ x = y → Go κ M R Z t L st σ n) (kf : x = y → Go κ M R Z q L st σ n) : Go κ M R Z pc L (.int y :: .int x :: st) σ n := by
  subst hq
  intro p e s m args below meth c H locs ls C hP hS hl
  exact lv_icmp_ne C.1 C.2.1 hd ht (fun h => kt h p e s m args below meth c H locs ls C hP hS hl) (fun h => kf h p e s m args below meth c H locs ls C hP hS hl)
theorem go_if_lt {x : Int32} {off : Int} {t : Nat} (hd : decode M.2.1 pc = .ok (.ifCond .lt off, 3)) (ht : (pc : Int) + off = (t : Int)) (hq : pc + 3 = q) (kt : x < 0 → Go κ M R Z t L st σ n) (kf : ¬ (x < 0) → Go κ M R Z q L st σ n) : Go κ M R Z pc L (.int x :: st) σ n := by
  subst hq
  intro p e s m args below meth c H locs ls C hP hS hl
  exact lv_if_lt C.1 C.2.1 hd ht (fun h => kt h p e s m args below meth c H locs ls C hP hS hl) (fun h => kf h p e s m args below meth c H locs ls C hP hS hl)
theorem go_icmp_lt {x y : Int32} {off : Int} {t : Nat} (hd : decode M.2.1 pc = .ok (.if_icmp .lt off, 3)) (ht : (pc : Int) + off = (t : Int)) (hq : pc + 3 = q) (kt : x < y → Go κ M R Z t L st σ n) (kf : ¬ (x < y) → Go κ M R Z q L st σ n) : Go κ M R Z pc L (.int y :: .int x :: st) σ n := by
  subst hq
  intro p e s m args below meth c H locs ls C hP hS hl
  exact lv_icmp_lt C.1 C.2.1 hd ht (fun h => kt h p e s m args below meth c H locs ls C hP hS hl) (fun h => kf h p e s m args below meth c H locs ls C hP hS hl)
theorem go_if_ge {x : Int32} {off : Int} {t : Nat} (hd : decode M.2.1 pc = .ok (.ifCond .ge off, 3)) (ht : (pc : Int) + off = (t : Int)) (hq : pc + 3 = q) (kt : 0 ≤ x → Go κ M R Z t L st σ n) (kf : ¬ (0 ≤ x) → Go κ M R Z q L st σ n) : Go κ M R Z pc L (.int x :: st) σ n := by
  subst hq
  intro p e s m args below meth c H locs ls C hP hS hl
  exact lv_if_ge C.1 C.2.1 hd ht (fun h => kt h p e s m args below meth c H locs ls C hP hS hl) (fun h => kf h p e s m args below meth c H locs ls C hP hS hl)
theorem go_icmp_ge {x y : Int32} {off : Int} {t : Nat} (hd : decode M.2.1 pc = .ok (.if_icmp .ge off, 3)) (ht : (pc : Int) + off = (t : Int)) (hq : pc + 3 = q) (kt : y ≤ x → Go κ M R Z t L st σ n) (kf : ¬ (y ≤ x) → Go κ M R Z q L st σ n) : Go κ M R Z pc L (.int y :: .int x :: st) σ n := by
  subst hq
  intro p e s m args below meth c H locs ls C hP hS hl
  exact lv_icmp_ge C.1 C.2.1 hd ht (fun h => kt h p e s m args below meth c H locs ls C hP hS hl) (fun h => kf h p e s m args below meth c H locs ls C hP hS hl)
theorem go_if_gt {x : Int32} {off : Int} {t : Nat} (hd : decode M.2.1 pc = .ok (.ifCond .gt off, 3)) (ht : (pc : Int) + off = (t : Int)) (hq : pc + 3 = q) (kt : 0 < x → Go κ M R Z t L st σ n) (kf : ¬ (0 < x) → Go κ M R Z q L st σ n) : Go κ M R Z pc L (.int x :: st) σ n := by
  subst hq
  intro p e s m args below meth c H locs ls C hP hS hl
  exact lv_if_gt C.1 C.2.1 hd ht (fun h => kt h p e s m args below meth c H locs ls C hP hS hl) (fun h => kf h p e s m args below meth c H locs ls C hP hS hl)
theorem go_icmp_gt {x y : Int32} {off : Int} {t : Nat} (hd : decode M.2.1 pc = .ok (.if_icmp .gt off, 3)) (ht : (pc : Int) + off = (t : Int)) (hq : pc + 3 = q) (kt : y < x → Go κ M R Z t L st σ n) (kf : ¬ (y < x) → Go κ M R Z q L st σ n) : Go κ M R Z pc L (.int y :: .int x :: st) σ n := by
  subst hq
  intro p e s m args below meth c H locs ls C hP hS hl
  exact lv_icmp_gt C.1 C.2.1 hd ht (fun h => kt h p e s m args below meth c H locs ls C hP hS hl) (fun h => kf h p e s m args below meth c H locs ls C hP hS hl)
theorem go_if_le {x : Int32} {off : Int} {t : Nat} (hd : decode M.2.1 pc = .ok (.ifCond .le off, 3)) (ht : (pc : Int) + off = (t : Int)) (hq : pc + 3 = q) (kt : x ≤ 0 → Go κ M R Z t L st σ n) (kf : ¬ (x ≤ 0) → Go κ M R Z q L st σ n) : Go κ M R Z pc L (.int x :: st) σ n := by
  subst hq
  intro p e s m args below meth c H locs ls C hP hS hl
  exact lv_if_le C.1 C.2.1 hd ht (fun h => kt h p e s m args below meth c H locs ls C hP hS hl) (fun h => kf h p e s m args below meth c H locs ls C hP hS hl)
theorem go_icmp_le {x y : Int32} {off : Int} {t : Nat} (hd : decode M.2.1 pc = .ok (.if_icmp .le off, 3)) (ht : (pc : Int) + off = (t : Int)) (hq : pc + 3 = q) (kt : x ≤ y → Go κ M R Z t L st σ n) (kf : ¬ (x ≤ y) → Go κ M R Z q L st σ n) : Go κ M R Z pc L (.int y :: .int x :: st) σ n := by
  subst hq
  intro p e s m args below meth c H locs ls C hP hS hl
  exact lv_icmp_le C.1 C.2.1 hd ht (fun h => kt h p e s m args below meth c H locs ls C hP hS hl) (fun h => kf h p e s m args below meth c H locs ls C hP hS hl)
theorem go_goto {off : Int} {t : Nat} (hd : decode M.2.1 pc = .ok (.goto off, 3)) (ht : (pc : Int) + off = (t : Int)) (kk : Go κ M R Z t L st σ n) : Go κ M R Z pc L st σ n := by
  intro p e s m args below meth c H locs ls C hP hS hl
  exact lv_goto C.1 C.2.1 hd ht (kk p e s m args below meth c H locs ls C hP hS hl)
theorem go_ifnull {a : Nat} {off : Int} (hd : decode M.2.1 pc = .ok (.ifnull off, 3)) (hq : pc + 3 = q) (kk : Go κ M R Z q L st σ n) : Go κ M R Z pc L (.ref a :: st) σ n := by
  subst hq
  intro p e s m args below meth c H locs ls C hP hS hl
  exact lv_ifnull C.1 C.2.1 hd (kk p e s m args below meth c H locs ls C hP hS hl)
theorem go_tableIn {dflt lo hi : Int} {offs : Array Int} {len : Nat} {x : Int32} {off : Int} {t : Nat} (hd : decode M.2.1 pc = .ok (.tableswitch dflt lo hi offs, len)) (h1 : ¬ x.toInt < lo) (h2 : ¬ hi < x.toInt) (ho : offs[(x.toInt - lo).toNat]? = some off) (ht : (pc : Int) + off = (t : Int))
    (kk : Go κ M R Z t L st σ n) : Go κ M R Z pc L (.int x :: st) σ n := by
  intro p e s m args below meth c H locs ls C hP hS hl
  exact lv_tableIn C.1 C.2.1 hd h1 h2 ho ht (kk p e s m args below meth c H locs ls C hP hS hl)
theorem go_tableOut {dflt lo hi : Int} {offs : Array Int} {len : Nat} {x : Int32} {t : Nat} (hd : decode M.2.1 pc = .ok (.tableswitch dflt lo hi offs, len)) (h : x.toInt < lo ∨ hi < x.toInt) (ht : (pc : Int) + dflt = (t : Int))
    (kk : Go κ M R Z t L st σ n) : Go κ M R Z pc L (.int x :: st) σ n := by
  intro p e s m args below meth c H locs ls C hP hS hl
  exact lv_tableOut C.1 C.2.1 hd h ht (kk p e s m args below meth c H locs ls C hP hS hl)
theorem go_lookup {dflt : Int} {ps : Array (Int × Int)} {len : Nat} {x : Int32} {off : Int} {t : Nat} (hd : decode M.2.1 pc = .ok (.lookupswitch dflt ps, len)) (hp : (ps.toList.zip (ps.toList.drop 1)).all (fun (a, next) => a.1 < next.1) = true) (ho : Op.lookupswitch.offset ps.toList dflt x.toInt = off) (ht : (pc : Int) + off = (t : Int))
    (kk : Go κ M R Z t L st σ n) : Go κ M R Z pc L (.int x :: st) σ n := by
  intro p e s m args below meth c H locs ls C hP hS hl
  exact lv_lookup C.1 C.2.1 hd hp ho ht (kk p e s m args below meth c H locs ls C hP hS hl)
/-! fields -/
/-- at this place of the pool of class own: field k of the class ci of gCl -/
def gFR (own : String) (idx ci k : Nat) (C : String) (T : u_T) (N : Nat) : Prop :=
  gCl[ci]? = some (C, T, N) ∧ k < N ∧ (∀ w ∈ u_ws C T N, w ∈ gTg) ∧ (gH (.fieldLink own idx C (T k).2.1 (T k).2.2.1) ∨ ∃ host, gHn (.fieldLinkNest own idx C (T k).2.1 (T k).2.2.1 host)) ∧ (T k).1 = C
theorem gE_obj {r ci : Nat} {fs : List (Option Nat)} (hs : gSh r = .inl (ci, fs)) : gE κ σ r = .inr (ci, gF κ.2.1 (σ.1 r) fs 0) := by
  unfold gE; rw [hs]
theorem gE_int {r len : Nat} (hs : gSh r = .inr (0, len)) : gE κ σ r = .inl (κ.2.2.2.1 0, len, .inl (σ.1 r)) := by
  unfold gE; rw [hs]; rfl
theorem gE_chr {r len : Nat} (hs : gSh r = .inr (1, len)) : gE κ σ r = .inl (κ.2.2.2.1 1, len, .inl (σ.1 r)) := by
  unfold gE; rw [hs]; rfl
theorem gE_lng {r len : Nat} (hs : gSh r = .inr (2, len)) : gE κ σ r = .inl (κ.2.2.2.1 2, len, .inr (.inl (fun j => if j = 0 then σ.2.1 else 0))) := by
  unfold gE; rw [hs]; rfl
theorem gE_dbl {r len : Nat} (hs : gSh r = .inr (3, len)) : gE κ σ r = .inl (κ.2.2.2.1 3, len, .inr (.inr (.inr (.inl (fun j => if j = 0 then σ.2.2 else 0))))) := by
  unfold gE; rw [hs]; rfl
theorem gE_arr {r len : Nat} (hs : gSh r = .inr (4, len)) : gE κ σ r = .inl (κ.2.2.2.1 4, len, .inr (.inr (.inr (.inr (fun j => some (κ.2.1 + (73 + 35 * j))))))) := by
  unfold gE; rw [hs]; rfl
theorem go_get {r ci k idx N : Nat} {Cn : String} {T : u_T} {fs : List (Option Nat)} {v : Value} (hf : gFR M.1.cls idx ci k Cn T N) (hd : decode M.2.1 pc = .ok (.getfield idx, 3)) (hs : gSh r = .inl (ci, fs)) (hr : r < gN) (hv : (gF κ.2.1 (σ.1 r) fs 0)[k]? = some v) (hq : pc + 3 = q)
    (kk : Go κ M R Z q L (v :: st) σ n) : Go κ M R Z pc L (.ref (κ.2.1 + r) :: st) σ n := by
  subst hq
  intro p e s m args below meth c H locs ls C hP hS hl
  obtain ⟨hc, hk, hin, hl2, hC⟩ := hf
  obtain ⟨hx, hb, -, -, hown, -, -, hG⟩ := id C
  have he : (gW κ σ)[r]? = some (κ.2.1 + r, .inr (ci, gF κ.2.1 (σ.1 r) fs 0)) := by rw [gW_at hr, gE_obj hs]
  have kk' := kk p e s m args below meth c H locs ls C hP hS hl
  rcases hl2 with hl2 | ⟨host, hl2⟩
  · exact va_get hx hb (Ts := gTg) (fun w hw => hG.word hw) hin hown hG.2.1 hP r he hc k hk (hG.word hl2.tg) (fun _ h9 => by rw [hC] at h9; exact h9) hv hd kk'
  · exact va_getN hx hb (Ts := gTg) (fun w hw => hG.word hw) hin hown hG.2.1 hP r he hc k hk (va_Nw.use rfl (hG.nest hl2.1 hl2.2)) (fun _ h9 => by rw [hC] at h9; exact h9) hv hd kk'
/-- what a class's table of fields must be, for a store -/
def gFT (C : String) (T : u_T) (N : Nat) (ty0 : Nat → FieldType) : Prop := (∀ k, k < N → parseFieldDescriptor (T k).2.2.1 = some (ty0 k)) ∧ (∀ a, a < N → ∀ b, b < N → a ≠ b → (T a).2.1 ≠ (T b).2.1)
theorem go_put {r ci k idx N : Nat} {Cn : String} {T : u_T} {fs : List (Option Nat)} {v : Int32} {ty0 : Nat → FieldType} (hf : gFR M.1.cls idx ci k Cn T N) (hT : gFT Cn T N ty0) (hd : decode M.2.1 pc = .ok (.putfield idx, 3)) (hs : gSh r = .inl (ci, fs)) (hr : r < gN) (hk0 : fs[k]? = some none) (hfin : (T k).2.2.2 = false) (hn : narrow (ty0 k) (.int v) = .int v) (hfit : fits (ty0 k) (.int v) = true) (hq : pc + 3 = q)
    (kk : Go κ M R Z q L st (gSA σ.1 r (upd (σ.1 r) k v), σ.2) n) : Go κ M R Z pc L (.int v :: .ref (κ.2.1 + r) :: st) σ n := by
  subst hq
  intro p e s m args below meth c H locs ls C hP hS hl
  obtain ⟨hc, hk, hin, hl2, hC⟩ := hf
  obtain ⟨hx, hb, -, -, hown, -, -, hG⟩ := id C
  have he : (gW κ σ)[r]? = some (κ.2.1 + r, .inr (ci, gF κ.2.1 (σ.1 r) fs 0)) := by rw [gW_at hr, gE_obj hs]
  have hset : (gW κ σ).set r (κ.2.1 + r, .inr (ci, (gF κ.2.1 (σ.1 r) fs 0).set k (.int v))) = gW κ (gSA σ.1 r (upd (σ.1 r) k v), σ.2) := by
    refine gW_set _ hr ?_ (fun j _ hj => gE_ne _ hj)
    rw [gE_obj hs, gF_set fs 0 k hk0, Nat.zero_add]
    simp only [gSA_self]
  have hlen : k < (gF κ.2.1 (σ.1 r) fs 0).length := by
    rcases Nat.lt_or_ge k (gF κ.2.1 (σ.1 r) fs 0).length with h1 | h1
    · exact h1
    · have h2 := List.getElem?_eq_none h1
      rw [gF_get, hk0] at h2
      cases h2
  rcases hl2 with hl2 | ⟨host, hl2⟩
  · exact va_put hx hb (Ts := gTg) (fun w hw => hG.word hw) hin ty0 hT.1 hT.2 hown hG.2.1 hP (gW_D κ σ) hS r he hc k hk (hG.word hl2.tg) (fun _ h9 => by rw [hC] at h9; exact h9) hfin (hT.1 k hk) hn hfit hlen hd (fun H1 locs1 hP1 _ hS1 => by
      rw [hset] at hP1
      exact kk p e s m args below meth c H1 locs1 ls C hP1 hS1 hl)
  · exact va_putN hx hb (Ts := gTg) (fun w hw => hG.word hw) hin ty0 hT.1 hT.2 hown hG.2.1 hP (gW_D κ σ) hS r he hc k hk (va_Nw.use rfl (hG.nest hl2.1 hl2.2)) (fun _ h9 => by rw [hC] at h9; exact h9) hfin (hT.1 k hk) hn hfit hlen hd (fun H1 locs1 hP1 _ hS1 => by
      rw [hset] at hP1
      exact kk p e s m args below meth c H1 locs1 ls C hP1 hS1 hl)
/-! arrays -/
theorem go_iald {r len : Nat} {i : Int32} (hd : decode M.2.1 pc = .ok (.iaload, 1)) (hs : gSh r = .inr (0, len)) (hr : r < gN) (hi : vp_in i len) (hq : pc + 1 = q) (kk : Go κ M R Z q L (.int (σ.1 r i.toNatClampNeg) :: st) σ n) : Go κ M R Z pc L (.int i :: .ref (κ.2.1 + r) :: st) σ n := by
  subst hq
  intro p e s m args below meth c H locs ls C hP hS hl
  exact va_iald C.1 C.2.1 C.2.2.2.2.2.2.2.2.1 hP r 0 (by rw [gW_at hr, gE_int hs]) rfl hi hd (kk p e s m args below meth c H locs ls C hP hS hl)
theorem go_cald {r len : Nat} {i : Int32} (hd : decode M.2.1 pc = .ok (.caload, 1)) (hs : gSh r = .inr (1, len)) (hr : r < gN) (hi : vp_in i len) (hq : pc + 1 = q) (kk : Go κ M R Z q L (.int (σ.1 r i.toNatClampNeg) :: st) σ n) : Go κ M R Z pc L (.int i :: .ref (κ.2.1 + r) :: st) σ n := by
  subst hq
  intro p e s m args below meth c H locs ls C hP hS hl
  exact va_cald C.1 C.2.1 C.2.2.2.2.2.2.2.2.1 hP r 1 (by rw [gW_at hr, gE_chr hs]) rfl hi hd (kk p e s m args below meth c H locs ls C hP hS hl)
theorem go_lald {r : Nat} {i : Int32} (hd : decode M.2.1 pc = .ok (.laload, 1)) (hs : gSh r = .inr (2, 1)) (hr : r < gN) (hi : vp_in i 1) (hq : pc + 1 = q) (kk : Go κ M R Z q L (.long σ.2.1 :: st) σ n) : Go κ M R Z pc L (.int i :: .ref (κ.2.1 + r) :: st) σ n := by
  subst hq
  intro p e s m args below meth c H locs ls C hP hS hl
  refine va_lald C.1 C.2.1 C.2.2.2.2.2.2.2.2.1 hP r 2 (by rw [gW_at hr, gE_lng hs]) rfl hi hd ?_
  simp only [vp_in1 hi, if_true]
  exact (kk p e s m args below meth c H locs ls C hP hS hl)
theorem go_dald {r : Nat} {i : Int32} (hd : decode M.2.1 pc = .ok (.daload, 1)) (hs : gSh r = .inr (3, 1)) (hr : r < gN) (hi : vp_in i 1) (hq : pc + 1 = q) (kk : Go κ M R Z q L (.double σ.2.2 :: st) σ n) : Go κ M R Z pc L (.int i :: .ref (κ.2.1 + r) :: st) σ n := by
  subst hq
  intro p e s m args below meth c H locs ls C hP hS hl
  refine va_dald C.1 C.2.1 C.2.2.2.2.2.2.2.2.1 hP r 3 (by rw [gW_at hr, gE_dbl hs]) rfl hi hd ?_
  simp only [vp_in1 hi, if_true]
  exact (kk p e s m args below meth c H locs ls C hP hS hl)
theorem go_aald {r len : Nat} {i : Int32} (hd : decode M.2.1 pc = .ok (.aaload, 1)) (hs : gSh r = .inr (4, len)) (hr : r < gN) (hi : vp_in i len) (hq : pc + 1 = q) (kk : Go κ M R Z q L (.ref (κ.2.1 + (73 + 35 * i.toNatClampNeg)) :: st) σ n) : Go κ M R Z pc L (.int i :: .ref (κ.2.1 + r) :: st) σ n := by
  subst hq
  intro p e s m args below meth c H locs ls C hP hS hl
  exact va_aldq (f := fun j => some (κ.2.1 + (73 + 35 * j))) C.1 C.2.1 C.2.2.2.2.2.2.2.2.1 hP r 4 (by rw [gW_at hr, gE_arr hs]) rfl hi hd (kk p e s m args below meth c H locs ls C hP hS hl)
theorem go_iast {r len : Nat} {i x : Int32} (hd : decode M.2.1 pc = .ok (.iastore, 1)) (hs : gSh r = .inr (0, len)) (hr : r < gN) (hi : vp_in i len) (hq : pc + 1 = q) (kk : Go κ M R Z q L st (gSA σ.1 r (upd (σ.1 r) i.toNatClampNeg x), σ.2) n) : Go κ M R Z pc L (.int x :: .int i :: .ref (κ.2.1 + r) :: st) σ n := by
  subst hq
  intro p e s m args below meth c H locs ls C hP hS hl
  have hset : (gW κ σ).set r (κ.2.1 + r, .inl (κ.2.2.2.1 0, len, .inl (upd (σ.1 r) i.toNatClampNeg x))) = gW κ (gSA σ.1 r (upd (σ.1 r) i.toNatClampNeg x), σ.2) := by
    refine gW_set _ hr ?_ (fun j _ hj => gE_ne _ hj)
    rw [gE_int hs]
    simp only [gSA_self]
  exact va_iast C.1 C.2.1 C.2.2.2.2.2.2.2.2.1 hP (gW_D κ σ) hS r 0 (by rw [gW_at hr, gE_int hs]) rfl hi hd (fun H1 locs1 hP1 _ hS1 => by
    rw [hset] at hP1
    exact kk p e s m args below meth c H1 locs1 ls C hP1 hS1 hl)
theorem go_cast {r len : Nat} {i x : Int32} (hd : decode M.2.1 pc = .ok (.castore, 1)) (hs : gSh r = .inr (1, len)) (hr : r < gN) (hi : vp_in i len) (hq : pc + 1 = q) (kk : Go κ M R Z q L st (gSA σ.1 r (upd (σ.1 r) i.toNatClampNeg (vp_nar .char x)), σ.2) n) : Go κ M R Z pc L (.int x :: .int i :: .ref (κ.2.1 + r) :: st) σ n := by
  subst hq
  intro p e s m args below meth c H locs ls C hP hS hl
  have hset : (gW κ σ).set r (κ.2.1 + r, .inl (κ.2.2.2.1 1, len, .inl (upd (σ.1 r) i.toNatClampNeg (vp_nar .char x)))) = gW κ (gSA σ.1 r (upd (σ.1 r) i.toNatClampNeg (vp_nar .char x)), σ.2) := by
    refine gW_set _ hr ?_ (fun j _ hj => gE_ne _ hj)
    rw [gE_chr hs]
    simp only [gSA_self]
  exact va_cast C.1 C.2.1 C.2.2.2.2.2.2.2.2.1 hP (gW_D κ σ) hS r 1 (by rw [gW_at hr, gE_chr hs]) rfl hi hd (fun H1 locs1 hP1 _ hS1 => by
    rw [hset] at hP1
    exact kk p e s m args below meth c H1 locs1 ls C hP1 hS1 hl)
theorem gE_o {j : Nat} {x : Int64 × UInt64} (hj : j < gN) (h37 : j ≠ 390) (h38 : j ≠ 391) : gE κ (σ.1, x) j = gE κ σ j := by
  have hk := gSh_kinds j hj
  unfold gE
  split
  · rfl
  · rfl
  · rfl
  · rename_i h; rw [h] at hk; exact absurd hk (by simp [h37, h38])
  · rename_i h; rw [h] at hk; exact absurd hk (by simp [h37, h38])
  · rfl
theorem go_last {i : Int32} {x : Int64} (hd : decode M.2.1 pc = .ok (.lastore, 1)) (hi : vp_in i 1) (hq : pc + 1 = q) (kk : Go κ M R Z q L st (σ.1, x, σ.2.2) n) : Go κ M R Z pc L (.long x :: .int i :: .ref (κ.2.1 + 390) :: st) σ n := by
  subst hq
  intro p e s m args below meth c H locs ls C hP hS hl
  have hset : (gW κ σ).set 390 (κ.2.1 + 390, .inl (κ.2.2.2.1 2, 1, .inr (.inl (vp_updL (fun j => if j = 0 then σ.2.1 else 0) i.toNatClampNeg x)))) = gW κ (σ.1, x, σ.2.2) := by
    refine gW_set _ (by decide) ?_ (fun j hj hne => ?_)
    · rw [gE_lng (len := 1) rfl, vp_in1 hi]
      congr 5
      funext j
      unfold vp_updL
      by_cases h : j = 0 <;> simp [h]
    · by_cases h : j = 391
      · subst h
        rw [gE_dbl (len := 1) rfl, gE_dbl (len := 1) rfl]
      · exact gE_o hj hne h
  exact va_last C.1 C.2.1 C.2.2.2.2.2.2.2.2.1 hP (gW_D κ σ) hS 390 2 (by rw [gW_at (by decide), gE_lng (len := 1) rfl]) rfl hi hd (fun H1 locs1 hP1 _ hS1 => by
    rw [hset] at hP1
    exact kk p e s m args below meth c H1 locs1 ls C hP1 hS1 hl)
theorem go_dast {i : Int32} {x : UInt64} (hd : decode M.2.1 pc = .ok (.dastore, 1)) (hi : vp_in i 1) (hq : pc + 1 = q) (kk : Go κ M R Z q L st (σ.1, σ.2.1, x) n) : Go κ M R Z pc L (.double x :: .int i :: .ref (κ.2.1 + 391) :: st) σ n := by
  subst hq
  intro p e s m args below meth c H locs ls C hP hS hl
  have hset : (gW κ σ).set 391 (κ.2.1 + 391, .inl (κ.2.2.2.1 3, 1, .inr (.inr (.inr (.inl (vf_upd (fun j => if j = 0 then σ.2.2 else 0) i.toNatClampNeg x)))))) = gW κ (σ.1, σ.2.1, x) := by
    refine gW_set _ (by decide) ?_ (fun j hj hne => ?_)
    · rw [gE_dbl (len := 1) rfl, vp_in1 hi]
      congr 7
      funext j
      unfold vf_upd
      by_cases h : j = 0 <;> simp [h]
    · by_cases h : j = 390
      · subst h
        rw [gE_lng (len := 1) rfl, gE_lng (len := 1) rfl]
      · exact gE_o hj h hne
  exact va_dast C.1 C.2.1 C.2.2.2.2.2.2.2.2.1 hP (gW_D κ σ) hS 391 3 (by rw [gW_at (by decide), gE_dbl (len := 1) rfl]) rfl hi hd (fun H1 locs1 hP1 _ hS1 => by
    rw [hset] at hP1
    exact kk p e s m args below meth c H1 locs1 ls C hP1 hS1 hl)
end GO
section GO4
variable {κ : gK} {M : gM} {R : Room} {Z : gZ} {pc q : Nat} {L : gL} {st : List Value} {σ : gST} {n : Nat}
theorem go_ldc {idx : Nat} {v : Int32} (hw : gH (.constant M.1.cls idx v)) (hd : decode M.2.1 pc = .ok (.ldc idx, 2)) (hq : pc + 2 = q) (kk : Go κ M R Z q L (.int v :: st) σ n) : Go κ M R Z pc L st σ n := by
  subst hq
  intro p e s m args below meth c H locs ls C hP hS hl
  exact lv_ldc C.1 C.2.1 C.2.2.2.2.1 (C.2.2.2.2.2.2.2.word hw.tg) hd (kk p e s m args below meth c H locs ls C hP hS hl)
theorem go_ldc2 {idx : Nat} {v : Int64} (hw : gH (.constantLong M.1.cls idx v)) (hd : decode M.2.1 pc = .ok (.ldc2_w idx, 3)) (hq : pc + 3 = q) (kk : Go κ M R Z q L (.long v :: st) σ n) : Go κ M R Z pc L st σ n := by
  subst hq
  intro p e s m args below meth c H locs ls C hP hS hl
  exact lv_ldc2 C.1 C.2.1 C.2.2.2.2.1 (C.2.2.2.2.2.2.2.word hw.tg) hd (kk p e s m args below meth c H locs ls C hP hS hl)
/-- the law's own script -/
theorem go_sld {i : Int32} (hd : decode M.2.1 pc = .ok (.iaload, 1)) (hi : vp_in i κ.2.2.2.2.2.1) (hq : pc + 1 = q) (kk : Go κ M R Z q L (.int (κ.2.2.2.2.2.2 i.toNatClampNeg) :: st) σ n) : Go κ M R Z pc L (.int i :: .ref κ.2.2.2.2.1 :: st) σ n := by
  subst hq
  intro p e s m args below meth c H locs ls C hP hS hl
  have hG := C.2.2.2.2.2.2.2
  have hX := hG.2.2.2.2.2.2.1
  obtain ⟨scr, e1, -⟩ := id hX
  exact va_sld C.1 C.2.1 hX (Array.getElem?_eq_some_iff.mp e1).1 (Nat.not_le.mpr hG.2.2.2.2.2.2.2.1) hS hi hd (kk p e s m args below meth c H locs ls C hP hS hl)
theorem go_slen (hd : decode M.2.1 pc = .ok (.arraylength, 1)) (hq : pc + 1 = q) (kk : Go κ M R Z q L (.int (Int32.ofNat κ.2.2.2.2.2.1) :: st) σ n) : Go κ M R Z pc L (.ref κ.2.2.2.2.1 :: st) σ n := by
  subst hq
  intro p e s m args below meth c H locs ls C hP hS hl
  have hG := C.2.2.2.2.2.2.2
  have hX := hG.2.2.2.2.2.2.1
  obtain ⟨scr, e1, -⟩ := id hX
  exact va_slen C.1 C.2.1 hX (Array.getElem?_eq_some_iff.mp e1).1 (Nat.not_le.mpr hG.2.2.2.2.2.2.2.1) hS hd (kk p e s m args below meth c H locs ls C hP hS hl)
theorem go_alen {r k len : Nat} {v : Int32} (hd : decode M.2.1 pc = .ok (.arraylength, 1)) (hs : gSh r = .inr (k, len)) (hk : k = 0 ∨ k = 1 ∨ k = 4) (hr : r < gN) (hv : Int32.ofNat len = v) (hq : pc + 1 = q) (kk : Go κ M R Z q L (.int v :: st) σ n) : Go κ M R Z pc L (.ref (κ.2.1 + r) :: st) σ n := by
  subst hq
  intro p e s m args below meth c H locs ls C hP hS hl
  have hK := C.2.2.2.2.2.2.2.2.1
  rcases hk with rfl | rfl | rfl
  · exact va_alen C.1 C.2.1 hK hP r 0 (by rw [gW_at hr, gE_int hs]) rfl hv hd (kk p e s m args below meth c H locs ls C hP hS hl)
  · exact va_alen C.1 C.2.1 hK hP r 1 (by rw [gW_at hr, gE_chr hs]) rfl hv hd (kk p e s m args below meth c H locs ls C hP hS hl)
  · exact va_alen C.1 C.2.1 hK hP r 4 (by rw [gW_at hr, gE_arr hs]) rfl hv hd (kk p e s m args below meth c H locs ls C hP hS hl)
/-! calls -/
def gFit (R : Room) (d n : Nat) : Prop := d + 1 ≤ R.frames ∧ 64 * (d + 1) ≤ R.locals ∧ n ≤ R.cells ∧ 6 * n ≤ R.slots
theorem gFit_rm {d d' n k : Nat} (h1 : d' + 1 ≤ d) (h2 : n ≤ k) : gFit (gRm d k) d' n := ⟨h1, Nat.mul_le_mul_left 64 h1, h2, Nat.mul_le_mul_left 6 h2⟩
theorem gRun_ret {p : Program} {e : Env} {s : State} {m : MethodId} {args : Array Value} {below : List Frame} {meth : Method} {c : Code} {H : Heap} {locs : List Loc} {ls : Array Slot} {Q : State → Prop} {st0 rest : List Value} {k1 : Nat} {v : Option Value} {σ1 : gST} {a : Array Value}
    (hr : vx_Run p κ.1 e R s m args below meth c H locs n (6 * n) k1 (6 * k1) (F0 m pc ls st0) rest (gQ κ (.inl v) σ1 a) (gXq κ (.inl v) σ1) (gA κ)) (hS : va_S (gA κ) s.heap H locs)
    (kk : ∀ (H1 : Heap) (locs1 : List Loc), gP κ σ1 H1 → va_S (gA κ) s.heap H1 locs1 → W p κ.1 e R s m args below meth c H1 locs1 (n + k1) (6 * (n + k1)) Q (F0 m (pc + 3) ls (v.toList ++ rest))) : W p κ.1 e R s m args below meth c H locs n (6 * n) Q (F0 m pc ls st0) := by
  intro T hT X
  rcases hr T hT X with ⟨w, st₀, t, T', L, h0, X', hL, e1, e2, ⟨⟨w', hw, hv⟩, hP1, hF⟩, st⟩ | ⟨q9, st₀, t, T', L, E, ce, h0, X', hL, e1, e2, ⟨hb, -⟩, -⟩
  · cases hw
    cases hv
    obtain ⟨k2, k3, k4⟩ := vx_keep h0 e1 hS (fun q _ h => h) (fun q h => h) hL hF
    rw [← Nat.mul_add] at X'
    obtain ⟨t2, a1, b1⟩ := kk T'.heap (locs ++ L) (by rw [e1]; exact hP1) k4 T' rfl X'
    exact ⟨t2, st t2 a1, b1⟩
  · cases hb
theorem gRun_thr {p : Program} {e : Env} {s : State} {m : MethodId} {args : Array Value} {below : List Frame} {meth : Method} {c : Code} {H : Heap} {locs : List Loc} {ls : Array Slot} {Q : State → Prop} {st0 rest : List Value} {k1 : Nat} {E : String} {σ1 : gST} {a : Array Value}
    (hr : vx_Run p κ.1 e R s m args below meth c H locs n (6 * n) k1 (6 * k1) (F0 m pc ls st0) rest (gQ κ (.inr E) σ1 a) (gXq κ (.inr E) σ1) (gA κ)) (hS : va_S (gA κ) s.heap H locs)
    (kx : ∀ (ce : Cell) (q9 : Addr) (H1 : Heap) (locs1 : List Loc), gP κ σ1 H1 → va_S (gA κ) s.heap H1 locs1 → H1[q9]? = some ce → ce.vm = .none → s.vm.findClass E = some ce.cls → vx_W p κ.1 e R s m args below meth c H1 locs1 (n + k1) (6 * (n + k1)) Q (F0 m pc ls rest) q9) : W p κ.1 e R s m args below meth c H locs n (6 * n) Q (F0 m pc ls st0) := by
  intro T hT X
  rcases hr T hT X with ⟨w, st₀, t, T', L, h0, X', hL, e1, e2, ⟨⟨w', hw, hv⟩, -⟩, -⟩ | ⟨q9, st₀, t, T', L, E9, ce, h0, X', hL, e1, e2, ⟨hb, hP1, hF⟩, hce, hcv, hcl, st⟩
  · cases hw
  · cases hb
    obtain ⟨k2, k3, k4⟩ := vx_keep h0 e1 hS (fun q _ h => h) (fun q h => h) hL hF
    rw [← Nat.mul_add] at X'
    obtain ⟨t2, a1, b1⟩ := kx ce q9 T'.heap (locs ++ L) (by rw [e1]; exact hP1) k4 (by rw [e1]; exact hce) hcv hcl T' rfl X'
    exact ⟨t2, st.trans a1, b1⟩
/-- what a call of M' needs of the tables; np: its parameters -/
def gMp (M' : gM) (np : Nat) : Prop := (M'.1.cls ≠ "java/lang/invoke/MethodHandle" ∧ M'.1.cls ≠ "java/lang/invoke/VarHandle" ∧ (parseMethodDescriptor M'.1.desc).map (fun d => d.parameters.length) = some np) ∧ M'.2.2.1 ≤ 45
def gMB (M' : gM) (np : Nat) : Prop := M'.2.2.2.2 = [] ∧ gH (.instanceMethod M'.1) ∧ gH (.selects M'.1.cls M'.1 M'.1) ∧ gH (.initialized M'.1.cls) ∧ gH (gCw M') ∧ gMp M' np
def gMSB (M' : gM) (np : Nat) : Prop := M'.2.2.2.2 = [] ∧ gH (.static M'.1) ∧ gH (.initialized M'.1.cls) ∧ gH (gCw M') ∧ gMp M' np
def gMV (own : String) (idx : Nat) (M' : gM) (np : Nat) : Prop := gH (.methodLink own idx M'.1) ∧ gMB M' np
def gMS (own : String) (idx : Nat) (M' : gM) (np : Nat) : Prop := gH (.methodLink own idx M'.1) ∧ gMSB M' np
theorem gCw_nil {M' : gM} (h : M'.2.2.2.2 = []) : gCw M' = .code M'.1 M'.2.1 M'.2.2.1 M'.2.2.2.1 := by
  unfold gCw; rw [h]
theorem gWs_good {M' : gM} (h : gH (gCw M')) : GoodIn gTg (gWs M') := by
  intro w hw
  rcases List.mem_cons.mp hw with e | e
  · rw [e]; exact h.good
  · exact gTg_good w e
theorem gV_run {p : Program} {e : Env} {s : State} {m : MethodId} {args : Array Value} {below : List Frame} {meth : Method} {c : Code} {H : Heap} {locs : List Loc} {ls : Array Slot} {idx np d' k1 r ci : Nat} {fs : List (Option Nat)} {M' : gM} {As rest st0 : List Value} {o1 : gO} {σ1 : gST} {C0 : String} {T0 : u_T} {N0 : Nat}
    (C : gCx κ M p s m meth c) (hP : gP κ σ H) (hS : va_S (gA κ) s.heap H locs) (hl : lv_has ls M.2.2.1 L)
    (hm : gMV M.1.cls idx M' np) (hC : gCt κ M' d' (.ref (κ.2.1 + r) :: As) σ o1 σ1 k1) (hd : decode M.2.1 pc = .ok (.invokevirtual idx, 3)) (hs : gSh r = .inl (ci, fs)) (hr : r < gN) (hc : gCl[ci]? = some (C0, T0, N0)) (hcl : C0 = M'.1.cls)
    (hst : st0 = As.reverse ++ .ref (κ.2.1 + r) :: rest) (hnp : As.length = np) (hW : (rest.map fun v => v.category).sum ≤ 8) (hfit : gFit R d' (n + k1)) :
    vx_Run p κ.1 e R s m args below meth c H locs n (6 * n) k1 (6 * k1) (F0 m pc ls st0) rest (gQ κ o1 σ1 (Value.ref (κ.2.1 + r) :: As).toArray) (gXq κ o1 σ1) (gA κ) := by
  obtain ⟨hx, hb, -, hml, hown, -, -, hG⟩ := C
  obtain ⟨h1, hh, h2, h3, h4, h5, h6, h7⟩ := hm
  have hts : ∀ w ∈ gTg, w.before args s = true := fun w hw => hG.word hw
  have hgi : GoodIn gTg (wsV M.1.cls idx M'.1.cls M'.1 (gWs M')) := by
    intro w hw
    rcases List.mem_append.mp hw with e | e
    · rcases List.mem_cons.mp e with e | e
      · rw [e]; exact h1.good
      · rcases List.mem_cons.mp e with e | e
        · rw [e]; exact h2.good
        · rcases List.mem_cons.mp e with e | e
          · rw [e]; exact h3.good
          · rw [List.mem_singleton.mp e]; exact h4.good
    · exact gWs_good h5 w e
  have hcw : CallW R s args M.1.cls M'.1.cls idx M'.1 M'.2.1 M'.2.2.1 M'.2.2.2.1 (gWs M') (gRm d' k1) k1 (6 * k1) np := by
    refine cwV (ws' := gTg) np hts hgi (by rw [gWsPay, gCw_nil hh]) rfl rfl ⟨rfl, h6⟩ ⟨hfit.1, ?_⟩
    show 8 + (M'.2.2.1 + 11) + 64 * d' ≤ R.locals
    have := hfit.2.1
    omega
  refine vx_runV (As := As) (b := κ.2.1 + r) (rest := rest) (Ts := gTg) ⟨hx, hb, hml, hown, hts⟩ hC hcw ⟨gPc_blind κ _ σ, ?_, fun U hU hW9 => ⟨rfl, hG.moveA hS hU hW9, by rw [hU]; exact hP⟩⟩ rfl hnp hl.1 hst (lv_room hW) hd ⟨hfit.2.2.1, by rw [← Nat.mul_add]; exact hfit.2.2.2⟩
  rw [← hcl]
  exact va_recv hG.2.1 hP (ci := ci) (q0 := r) hc (by rw [gW_at hr, gE_obj hs])
theorem gS_run {p : Program} {e : Env} {s : State} {m : MethodId} {args : Array Value} {below : List Frame} {meth : Method} {c : Code} {H : Heap} {locs : List Loc} {ls : Array Slot} {idx np d' k1 : Nat} {M' : gM} {As rest st0 : List Value} {o1 : gO} {σ1 : gST}
    (C : gCx κ M p s m meth c) (hP : gP κ σ H) (hS : va_S (gA κ) s.heap H locs) (hl : lv_has ls M.2.2.1 L)
    (hm : gMS M.1.cls idx M' np) (hC : gCt κ M' d' As σ o1 σ1 k1) (hd : decode M.2.1 pc = .ok (.invokestatic idx, 3))
    (hst : st0 = As.reverse ++ rest) (hnp : As.length = np) (hW : (rest.map fun v => v.category).sum ≤ 8) (hfit : gFit R d' (n + k1)) :
    vx_Run p κ.1 e R s m args below meth c H locs n (6 * n) k1 (6 * k1) (F0 m pc ls st0) rest (gQ κ o1 σ1 As.toArray) (gXq κ o1 σ1) (gA κ) := by
  obtain ⟨hx, hb, -, hml, hown, -, -, hG⟩ := C
  obtain ⟨h1, hh, h2, h4, h5, h6, h7⟩ := hm
  have hts : ∀ w ∈ gTg, w.before args s = true := fun w hw => hG.word hw
  have hcb : CallB R s args M.1.cls idx M'.1 M'.2.1 M'.2.2.1 M'.2.2.2.1 (gWs M') (gRm d' k1) k1 (6 * k1) np := by
    refine callB_of np hts (gWs_good h5) (ws' := gTg) (by rw [gWsPay, gCw_nil hh]) rfl rfl (hts _ h4.tg) (hts _ h1.tg) h6 ⟨hfit.1, ?_⟩
    show 8 + (M'.2.2.1 + 11) + 64 * d' ≤ R.locals
    have := hfit.2.1
    omega
  exact vx_runS (As := As) (rest := rest) (Ts := gTg) ⟨hx, hb, hml, hown, hts⟩ hC ⟨hcb, hts _ h2.tg⟩ ⟨gPc_blind κ _ σ, fun U hU hW9 => ⟨rfl, hG.moveA hS hU hW9, by rw [hU]; exact hP⟩⟩ rfl hnp hl.1 hst (lv_room hW) hd ⟨hfit.2.2.1, by rw [← Nat.mul_add]; exact hfit.2.2.2⟩
theorem go_callV {idx np d' k1 r ci n2 : Nat} {fs : List (Option Nat)} {M' : gM} {As rest st0 : List Value} {v : Option Value} {σ1 : gST} {C0 : String} {T0 : u_T} {N0 : Nat}
    (hm : gMV M.1.cls idx M' np) (hC : gCt κ M' d' (.ref (κ.2.1 + r) :: As) σ (.inl v) σ1 k1) (hd : decode M.2.1 pc = .ok (.invokevirtual idx, 3)) (hst : st0 = As.reverse ++ .ref (κ.2.1 + r) :: rest) (hs : gSh r = .inl (ci, fs)) (hr : r < gN) (hc : gCl[ci]? = some (C0, T0, N0)) (hcl : C0 = M'.1.cls)
    (hnp : As.length = np) (hW : (rest.map fun v => v.category).sum ≤ 8) (hn : n + k1 = n2) (hfit : gFit R d' n2) (hq : pc + 3 = q) (kk : Go κ M R Z q L (v.toList ++ rest) σ1 n2) : Go κ M R Z pc L st0 σ n := by
  subst hq; subst hn
  intro p e s m args below meth c H locs ls C hP hS hl
  exact gRun_ret (gV_run C hP hS hl hm hC hd hs hr hc hcl hst hnp hW hfit) hS (fun H1 locs1 hP1 hS1 => kk p e s m args below meth c H1 locs1 ls C hP1 hS1 hl)
theorem go_callS {idx np d' k1 n2 : Nat} {M' : gM} {As rest st0 : List Value} {v : Option Value} {σ1 : gST}
    (hm : gMS M.1.cls idx M' np) (hC : gCt κ M' d' As σ (.inl v) σ1 k1) (hd : decode M.2.1 pc = .ok (.invokestatic idx, 3)) (hst : st0 = As.reverse ++ rest)
    (hnp : As.length = np) (hW : (rest.map fun v => v.category).sum ≤ 8) (hn : n + k1 = n2) (hfit : gFit R d' n2) (hq : pc + 3 = q) (kk : Go κ M R Z q L (v.toList ++ rest) σ1 n2) : Go κ M R Z pc L st0 σ n := by
  subst hq; subst hn
  intro p e s m args below meth c H locs ls C hP hS hl
  exact gRun_ret (gS_run C hP hS hl hm hC hd hst hnp hW hfit) hS (fun H1 locs1 hP1 hS1 => kk p e s m args below meth c H1 locs1 ls C hP1 hS1 hl)
/-- the callee throws, and this method has no handlers -/
theorem go_callV_x {idx np d' k1 r ci d k : Nat} {fs : List (Option Nat)} {M' : gM} {As rest st0 : List Value} {E : String} {σ1 : gST} {C0 : String} {T0 : u_T} {N0 : Nat}
    (hm : gMV M.1.cls idx M' np) (hC : gCt κ M' d' (.ref (κ.2.1 + r) :: As) σ (.inr E) σ1 k1) (hd : decode M.2.1 pc = .ok (.invokevirtual idx, 3)) (hst : st0 = As.reverse ++ .ref (κ.2.1 + r) :: rest) (hs : gSh r = .inl (ci, fs)) (hr : r < gN) (hc : gCl[ci]? = some (C0, T0, N0)) (hcl : C0 = M'.1.cls)
    (hnp : As.length = np) (hW : (rest.map fun v => v.category).sum ≤ 8) (hfit : gFit (gRm d k) d' (n + k1)) (hh : M.2.2.2.2 = []) : Go κ M (gRm d k) (gZm κ (.inr E) σ1 k) pc L st0 σ n := by
  intro p e s m args below meth c H locs ls C hP hS hl
  refine gRun_thr (gV_run C hP hS hl hm hC hd hs hr hc hcl hst hnp hW hfit) hS (fun ce q9 H1 locs1 hP1 hS1 h1 h2 h3 => ?_)
  refine vx_out (fun x hx => ?_) C.2.2.2.2.2.1 h1 h2 h3 (fun t ht _ => ⟨rfl, by rw [ht]; exact hP1, hS1.F ht⟩) hS1.2.2 hfit.2.2.1 hfit.2.2.2
  rw [C.2.2.2.2.2.2.1, hh] at hx
  cases hx
theorem go_callS_x {idx np d' k1 d k : Nat} {M' : gM} {As rest st0 : List Value} {E : String} {σ1 : gST}
    (hm : gMS M.1.cls idx M' np) (hC : gCt κ M' d' As σ (.inr E) σ1 k1) (hd : decode M.2.1 pc = .ok (.invokestatic idx, 3)) (hst : st0 = As.reverse ++ rest)
    (hnp : As.length = np) (hW : (rest.map fun v => v.category).sum ≤ 8) (hfit : gFit (gRm d k) d' (n + k1)) (hh : M.2.2.2.2 = []) : Go κ M (gRm d k) (gZm κ (.inr E) σ1 k) pc L st0 σ n := by
  intro p e s m args below meth c H locs ls C hP hS hl
  refine gRun_thr (gS_run C hP hS hl hm hC hd hst hnp hW hfit) hS (fun ce q9 H1 locs1 hP1 hS1 h1 h2 h3 => ?_)
  refine vx_out (fun x hx => ?_) C.2.2.2.2.2.1 h1 h2 h3 (fun t ht _ => ⟨rfl, by rw [ht]; exact hP1, hS1.F ht⟩) hS1.2.2 hfit.2.2.1 hfit.2.2.2
  rw [C.2.2.2.2.2.2.1, hh] at hx
  cases hx
/-! ends -/
theorem gEnd {p : Program} {e : Env} {s : State} {m : MethodId} {args : Array Value} {below : List Frame} {meth : Method} {c : Code} {H : Heap} {locs : List Loc} {g : JFrame} {o : gO} {σ' : gST} {k : Nat} (hn : n ≤ k)
    (h : W p κ.1 e R s m args below meth c H locs k (6 * k) (MQ below (gQ κ o σ') args s k (6 * k) (gA κ)) g) : W p κ.1 e R s m args below meth c H locs n (6 * n) (gZm κ o σ' k below args s) g := by
  have h2 := vx_ret (XC := gXq κ o σ') h
  intro T hT X
  exact h2 T hT (stand_widen X hn (Nat.mul_le_mul_left 6 hn))
theorem go_ireturn {v : Int32} {o : gO} {σ' : gST} {k : Nat} {ty : FieldType} (hd : decode M.2.1 pc = .ok (.ireturn, 1)) (hr : M.2.2.2.1 = some ty) (hv : narrow ty (.int v) = .int v) (ho : o = .inl (some (.int v))) (hσ : σ' = σ) (hn : n ≤ k) : Go κ M R (gZm κ o σ' k) pc L [.int v] σ n := by
  subst ho; subst hσ
  intro p e s m args below meth c H locs ls C hP hS hl
  refine gEnd hn ?_
  exact W.zret C.1 C.2.1 (C.2.2.1.trans hr) hv (fun t ht _ => ⟨⟨_, rfl, rfl⟩, by rw [ht]; exact hP, hS.F ht⟩) hS.2.2 hd C.2.2.2.2.2.1
theorem go_lreturn {v : Int64} {o : gO} {σ' : gST} {k : Nat} (hd : decode M.2.1 pc = .ok (.lreturn, 1)) (hr : M.2.2.2.1 = some .long) (ho : o = .inl (some (.long v))) (hσ : σ' = σ) (hn : n ≤ k) : Go κ M R (gZm κ o σ' k) pc L [.long v] σ n := by
  subst ho; subst hσ
  intro p e s m args below meth c H locs ls C hP hS hl
  refine gEnd hn ?_
  exact W.lret C.1 C.2.1 (C.2.2.1.trans hr) (fun t ht _ => ⟨⟨_, rfl, rfl⟩, by rw [ht]; exact hP, hS.F ht⟩) hS.2.2 hd C.2.2.2.2.2.1
theorem go_dreturn {v : UInt64} {o : gO} {σ' : gST} {k : Nat} (hd : decode M.2.1 pc = .ok (.dreturn, 1)) (hr : M.2.2.2.1 = some .double) (ho : o = .inl (some (.double v))) (hσ : σ' = σ) (hn : n ≤ k) : Go κ M R (gZm κ o σ' k) pc L [.double v] σ n := by
  subst ho; subst hσ
  intro p e s m args below meth c H locs ls C hP hS hl
  refine gEnd hn ?_
  exact W.dret C.1 C.2.1 (C.2.2.1.trans hr) (fun t ht _ => ⟨⟨_, rfl, rfl⟩, by rw [ht]; exact hP, hS.F ht⟩) hS.2.2 hd C.2.2.2.2.2.1
theorem go_areturn {a : Nat} {o : gO} {σ' : gST} {k : Nat} {cn : String} (hd : decode M.2.1 pc = .ok (.areturn, 1)) (hr : M.2.2.2.1 = some (.object cn)) (ho : o = .inl (some (.ref a))) (hσ : σ' = σ) (hn : n ≤ k) : Go κ M R (gZm κ o σ' k) pc L [.ref a] σ n := by
  subst ho; subst hσ
  intro p e s m args below meth c H locs ls C hP hS hl
  refine gEnd hn ?_
  exact W.aret C.1 C.2.1 (C.2.2.1.trans hr) (Or.inl ⟨cn, rfl⟩) (Or.inr ⟨a, rfl⟩) (fun t ht _ => ⟨⟨_, rfl, rfl⟩, by rw [ht]; exact hP, hS.F ht⟩) hS.2.2 hd C.2.2.2.2.2.1
theorem go_return {o : gO} {σ' : gST} {k : Nat} (hd : decode M.2.1 pc = .ok (.return_, 1)) (hr : M.2.2.2.1 = none) (ho : o = .inl none) (hσ : σ' = σ) (hn : n ≤ k) : Go κ M R (gZm κ o σ' k) pc L [] σ n := by
  subst ho; subst hσ
  intro p e s m args below meth c H locs ls C hP hS hl
  refine gEnd hn ?_
  exact W.vret C.1 C.2.1 (C.2.2.1.trans hr) (fun t ht _ => ⟨⟨_, rfl, rfl⟩, by rw [ht]; exact hP, hS.F ht⟩) hS.2.2 hd C.2.2.2.2.2.1
end GO4
/-! throws -/
section GO5
variable {κ : gK} {M : gM} {R : Room} {Z : gZ} {pc q : Nat} {L : gL} {st : List Value} {σ : gST} {n : Nat}
/-- what 'throw new E("..")' of the class TypeDesigner needs of the tables; ix, rx: the entry and the bytes by which E's constructor goes up -/
def gTh (ik ic ix : Nat) (rx : ByteArray) (E : String) : Prop :=
  Bundle.fit E = true ∧ (decode rx 0 = .ok (.aload_n 0, 1) ∧ decode rx 1 = .ok (.aload_n 1, 1) ∧ decode rx 2 = .ok (.invokespecial ix, 3) ∧ decode rx 5 = .ok (.return_, 1)) ∧ (∀ w ∈ Cond.classLink RX10 ik E :: Cond.initialized E :: gx_at RX10 ic E ix rx ["java/lang/RuntimeException", "java/lang/Exception"], w ∈ lw_tbl ∧ gGood w = true ∧ vx_ot w = true)
theorem gKept {p : Program} {e : Env} {s t : State} {H : Heap} {locs : List Loc} (hP : gP κ σ H) (hS : va_S (gA κ) s.heap H locs) (hz : H.size ≤ t.heap.size) (hk : ∀ q : Nat, q < H.size → t.heap[q]? = H[q]?) : gP κ σ t.heap ∧ va_F (gA κ) s t :=
  ⟨hP.kept (fun k q hq => hk _ (hP k q hq).lt), Nat.le_trans hS.1 hz, fun q h1 h2 => by rw [hk q (Nat.lt_of_lt_of_le h1 hS.1)]; exact hS.2.1 q h1 h2⟩
theorem go_throw {ik is ic d k : Nat} {E text : String} {ix : Nat} {rx : ByteArray} (hT : gTh ik ic ix rx E) (hs : (is, text) ∈ gStr) (hM : M.1.cls = RX10) (hh : M.2.2.2.2 = [])
    (d0 : decode M.2.1 pc = .ok (.new ik, 3)) (d3 : decode M.2.1 (pc + 3) = .ok (.dup, 1)) (d4 : decode M.2.1 (pc + 4) = .ok (.ldc is, 2)) (d6 : decode M.2.1 (pc + 6) = .ok (.invokespecial ic, 3)) (d9 : decode M.2.1 (pc + 9) = .ok (.athrow, 1))
    (hd : 6 ≤ d) (hn : n + 1 ≤ k) : Go κ M (gRm d k) (gZm κ (.inr E) σ k) pc L [] σ n := by
  intro p e s m args below meth c H locs ls C hP hS hl
  obtain ⟨hx, hb, hr, hml, hown, hlocks, htab, hG⟩ := C
  obtain ⟨hfit, ⟨x0, x1, x2, x5⟩, hws⟩ := hT
  obtain ⟨sa, hsa⟩ := hG.2.2.2.2.1 _ hs
  rw [hM] at hown
  have hw : ∀ w ∈ Cond.classLink RX10 ik E :: Cond.initialized E :: gx_at RX10 ic E ix rx ["java/lang/RuntimeException", "java/lang/Exception"], w.before args s = true := fun w hw => hG.word2 (hws w hw).1 (hws w hw).2.1
  refine gx_throwS (x0 := x0) (x1 := x1) (x2 := x2) (x5 := x5) (own := RX10) (cls := E) (text := text) (names := ["java/lang/RuntimeException", "java/lang/Exception"]) (ik := ik) (is := is) (ic := ic) (sa := sa) hx hb hG.2.2.2.2.2.2.2.2 hown hfit (fun n hn => ?_) (hw _ List.mem_cons_self) (hw _ (List.mem_cons_of_mem _ List.mem_cons_self)) hsa (fun w h => hw w (List.mem_cons_of_mem _ (List.mem_cons_of_mem _ h))) (fun w h => (hws w h).2.2) hG.2.2.1 hG.2.2.2.1 hS (by rw [hl.1, hml]) d0 d3 d4 d6 d9 (fun x hx => ?_) ?_ ?_ hn (by show 6 * n + 6 ≤ 6 * k; omega) hlocks
    (fun t _ hz hk => ⟨rfl, gKept (p := p) (e := e) hP hS hz hk⟩) hS.2.2 hn (by omega)
  · rcases List.mem_cons.mp hn with h | h
    · rw [h]; decide +kernel
    · rw [List.mem_singleton.mp h]; decide +kernel
  · rw [htab, hh] at hx
    cases hx
  · show 2 + 3 < d
    omega
  · show 0 + (13 * (2 + 1) + 43) ≤ 64 * d
    omega
theorem go_throwW {ik is ic d k : Nat} {E text : String} {ix : Nat} {rx : ByteArray} (hT : gTh ik ic ix rx E) (hs : (is, text) ∈ gStr) (hM : M.1.cls = RX10) (hh : M.2.2.2.2 = [])
    (d0 : decode M.2.1 pc = .ok (.new ik, 3)) (d3 : decode M.2.1 (pc + 3) = .ok (.dup, 1)) (d4 : decode M.2.1 (pc + 4) = .ok (.ldc_w is, 3)) (d7 : decode M.2.1 (pc + 7) = .ok (.invokespecial ic, 3)) (d10 : decode M.2.1 (pc + 10) = .ok (.athrow, 1))
    (hd : 6 ≤ d) (hn : n + 1 ≤ k) : Go κ M (gRm d k) (gZm κ (.inr E) σ k) pc L [] σ n := by
  intro p e s m args below meth c H locs ls C hP hS hl
  obtain ⟨hx, hb, hr, hml, hown, hlocks, htab, hG⟩ := C
  obtain ⟨hfit, ⟨x0, x1, x2, x5⟩, hws⟩ := hT
  obtain ⟨sa, hsa⟩ := hG.2.2.2.2.1 _ hs
  rw [hM] at hown
  have hw : ∀ w ∈ Cond.classLink RX10 ik E :: Cond.initialized E :: gx_at RX10 ic E ix rx ["java/lang/RuntimeException", "java/lang/Exception"], w.before args s = true := fun w hw => hG.word2 (hws w hw).1 (hws w hw).2.1
  refine gx_throwSW (x0 := x0) (x1 := x1) (x2 := x2) (x5 := x5) (own := RX10) (cls := E) (text := text) (names := ["java/lang/RuntimeException", "java/lang/Exception"]) (ik := ik) (is := is) (ic := ic) (sa := sa) hx hb hG.2.2.2.2.2.2.2.2 hown hfit (fun n hn => ?_) (hw _ List.mem_cons_self) (hw _ (List.mem_cons_of_mem _ List.mem_cons_self)) hsa (fun w h => hw w (List.mem_cons_of_mem _ (List.mem_cons_of_mem _ h))) (fun w h => (hws w h).2.2) hG.2.2.1 hG.2.2.2.1 hS (by rw [hl.1, hml]) d0 d3 d4 d7 d10 (fun x hx => ?_) ?_ ?_ hn (by show 6 * n + 6 ≤ 6 * k; omega) hlocks
    (fun t _ hz hk => ⟨rfl, gKept (p := p) (e := e) hP hS hz hk⟩) hS.2.2 hn (by omega)
  · rcases List.mem_cons.mp hn with h | h
    · rw [h]; decide +kernel
    · rw [List.mem_singleton.mp h]; decide +kernel
  · rw [htab, hh] at hx
    cases hx
  · show 2 + 3 < d
    omega
  · show 0 + (13 * (2 + 1) + 43) ≤ 64 * d
    omega
/-! a private static method of a nest mate -/
def gMN (own : String) (idx : Nat) (host : String) (M' : gM) (np : Nat) : Prop := gHn (.methodLinkNest own idx M'.1 host) ∧ gMSB M' np
/-- .. of a static method with handlers -/
def gMSH (M' : gM) (np : Nat) : Prop := gH (.static M'.1) ∧ gH (.initialized M'.1.cls) ∧ gH (gCw M') ∧ gMp M' np
def gMSHk (own : String) (idx : Nat) (M' : gM) (np : Nat) : Prop := gH (.methodLink own idx M'.1) ∧ gMSH M' np
theorem go_callN {idx np d' k1 n2 : Nat} {host : String} {M' : gM} {As rest st0 : List Value} {v : Option Value} {σ1 : gST}
    (hm : gMN M.1.cls idx host M' np) (hC : gCt κ M' d' As σ (.inl v) σ1 k1) (hd : decode M.2.1 pc = .ok (.invokestatic idx, 3)) (hst : st0 = As.reverse ++ rest)
    (hnp : As.length = np) (hW : (rest.map fun v => v.category).sum ≤ 8) (hn : n + k1 = n2) (hfit : gFit R d' n2) (hq : pc + 3 = q) (kk : Go κ M R Z q L (v.toList ++ rest) σ1 n2) : Go κ M R Z pc L st0 σ n := by
  subst hq; subst hn
  intro p e s m args below meth c H locs ls C hP hS hl
  have C' := C
  obtain ⟨hx, hb, -, hml, hown, -, -, hG⟩ := C'
  obtain ⟨h1, hh, h2, h4, h5, h6, h7⟩ := hm
  have hts : ∀ w ∈ gTg, w.before args s = true := fun w hw => hG.word hw
  have hcn : va_CN R s args M.1.cls idx M'.1 host M'.2.1 M'.2.2.1 M'.2.2.2.1 (gWs M') (gRm d' k1) k1 (6 * k1) np := by
    refine va_cnB np hts (gWs_good h5) (ws' := gTg) (by rw [gWsPay, gCw_nil hh]) rfl rfl (hG.nest h1.1 h1.2) (hts _ h4.tg) h6 ⟨hfit.1, ?_⟩
    show 8 + (M'.2.2.1 + 11) + 64 * d' ≤ R.locals
    have := hfit.2.1
    omega
  exact gRun_ret (vx_runSN (As := As) (rest := rest) (Ts := gTg) ⟨hx, hb, hml, hown, hts⟩ hC ⟨hcn, hts _ h2.tg, trivial⟩ ⟨gPc_blind κ _ σ, fun U hU hW9 => ⟨rfl, hG.moveA hS hU hW9, by rw [hU]; exact hP⟩⟩ rfl hnp hl.1 hst (lv_room hW) hd ⟨hfit.2.2.1, by rw [← Nat.mul_add]; exact hfit.2.2.2⟩) hS (fun H1 locs1 hP1 hS1 => kk p e s m args below meth c H1 locs1 ls C hP1 hS1 hl)
/-! Math.max, Math.min, System.arraycopy -/
def gMx (own : String) (idx : Nat) : Prop := gH (.methodLink own idx Lib.Math.max.name) ∧ gH (.static Lib.Math.max.name) ∧ gH (.initialized "java/lang/Math") ∧ gH (.code Lib.Math.max.name Lib.Math.max.code 2 (some .int))
def gMi (own : String) (idx : Nat) : Prop := gH (.methodLink own idx Lib.Math.min.name) ∧ gH (.static Lib.Math.min.name) ∧ gH (.initialized "java/lang/Math") ∧ gH (.code Lib.Math.min.name Lib.Math.min.code 2 (some .int))
def gCp (own : String) (idx : Nat) : Prop := gH (.methodLink own idx arraycopyName) ∧ gH (.native arraycopyName) ∧ gH (.static arraycopyName) ∧ gH (.initialized "java/lang/System")
theorem go_max {idx : Nat} {x y : Int32} (hm : gMx M.1.cls idx) (hd : decode M.2.1 pc = .ok (.invokestatic idx, 3)) (hW : (st.map fun v => v.category).sum ≤ 8) (hfit : gFit R 0 n) (hq : pc + 3 = q) (kk : Go κ M R Z q L (.int (if x < y then y else x) :: st) σ n) : Go κ M R Z pc L (.int y :: .int x :: st) σ n := by
  subst hq
  intro p e s m args below meth c H locs ls C hP hS hl
  have hG := C.2.2.2.2.2.2.2
  exact va_mmax C.1 C.2.1 (by rw [hl.1, C.2.2.2.1]) C.2.2.2.2.1 (hG.word hm.1.tg) (hG.word hm.2.1.tg) (hG.word hm.2.2.1.tg) (hG.word hm.2.2.2.tg) hfit.1 (by have := hfit.2.1; omega) hfit.2.2.1 hfit.2.2.2 hd (kk p e s m args below meth c H locs ls C hP hS hl)
theorem go_min {idx : Nat} {x y : Int32} (hm : gMi M.1.cls idx) (hd : decode M.2.1 pc = .ok (.invokestatic idx, 3)) (hW : (st.map fun v => v.category).sum ≤ 8) (hfit : gFit R 0 n) (hq : pc + 3 = q) (kk : Go κ M R Z q L (.int (if y < x then y else x) :: st) σ n) : Go κ M R Z pc L (.int y :: .int x :: st) σ n := by
  subst hq
  intro p e s m args below meth c H locs ls C hP hS hl
  have hG := C.2.2.2.2.2.2.2
  exact va_mmin C.1 C.2.1 (by rw [hl.1, C.2.2.2.1]) C.2.2.2.2.1 (hG.word hm.1.tg) (hG.word hm.2.1.tg) (hG.word hm.2.2.1.tg) (hG.word hm.2.2.2.tg) hfit.1 (by have := hfit.2.1; omega) hfit.2.2.1 hfit.2.2.2 hd (kk p e s m args below meth c H locs ls C hP hS hl)
theorem go_copy {idx r0 r1 n0 n1 : Nat} {sp dp len : Int32} (hm : gCp M.1.cls idx) (hd : decode M.2.1 pc = .ok (.invokestatic idx, 3)) (hs0 : gSh r0 = .inr (0, n0)) (hs1 : gSh r1 = .inr (0, n1)) (hr0 : r0 < gN) (hr1 : r1 < gN)
    (h1 : ¬ sp < 0) (h2 : ¬ dp < 0) (h3 : ¬ len < 0) (h4 : sp.toNatClampNeg + len.toNatClampNeg ≤ n0) (h5 : dp.toNatClampNeg + len.toNatClampNeg ≤ n1) (hW : (st.map fun v => v.category).sum ≤ 8) (hfit : gFit R 0 n) (hq : pc + 3 = q)
    (kk : Go κ M R Z q L st (gSA σ.1 r1 (va_cpy (σ.1 r0) (σ.1 r1) sp.toNatClampNeg dp.toNatClampNeg len.toNatClampNeg), σ.2) n) : Go κ M R Z pc L (.int len :: .int dp :: .ref (κ.2.1 + r1) :: .int sp :: .ref (κ.2.1 + r0) :: st) σ n := by
  subst hq
  intro p e s m args below meth c H locs ls C hP hS hl
  have hG := C.2.2.2.2.2.2.2
  have hset : (gW κ σ).set r1 (κ.2.1 + r1, .inl (κ.2.2.2.1 0, n1, .inl (va_cpy (σ.1 r0) (σ.1 r1) sp.toNatClampNeg dp.toNatClampNeg len.toNatClampNeg))) = gW κ (gSA σ.1 r1 (va_cpy (σ.1 r0) (σ.1 r1) sp.toNatClampNeg dp.toNatClampNeg len.toNatClampNeg), σ.2) := by
    refine gW_set _ hr1 ?_ (fun j _ hj => gE_ne _ hj)
    rw [gE_int hs1]
    simp only [gSA_self]
  exact va_copyi C.1 C.2.1 (by rw [hl.1, C.2.2.2.1]) C.2.2.2.2.1 (hG.word hm.1.tg) (hG.word hm.2.1.tg) (hG.word hm.2.2.1.tg) (hG.word hm.2.2.2.tg) hG.2.1 hP (gW_D κ σ) hS r0 r1 0 0 (by rw [gW_at hr0, gE_int hs0]) (by rw [gW_at hr1, gE_int hs1]) rfl rfl rfl h1 h2 h3 h4 h5 (fun _ _ => rfl) hfit.1 (by
      have := hfit.2.1
      have h9 : nativeFrameWords "java/lang/System" "arraycopy" 5 = 7 := by decide +kernel
      rw [h9]
      omega) hd (fun H1 locs1 hP1 _ hS1 => by
    rw [hset] at hP1
    exact kk p e s m args below meth c H1 locs1 ls C hP1 hS1 hl)
end GO5
/-! ===== decode rows by lists; fields by kinds ===== -/
abbrev gDecs (M : gM) (l : List (Nat × Instr × Nat)) : Prop := l.all (fun q => decide (decode M.2.1 q.1 = .ok q.2)) = true
theorem gDec {M : gM} {l : List (Nat × Instr × Nat)} (h : gDecs M l) (k : Nat) {pc : Nat} {i : Instr} {len : Nat} (hk : l[k]? = some (pc, i, len)) : decode M.2.1 pc = .ok (i, len) :=
  have h1 : (fun q : Nat × Instr × Nat => decide (decode M.2.1 q.1 = .ok q.2)) (pc, i, len) = true := List.all_eq_true.mp h (pc, i, len) (List.mem_of_getElem? hk)
  have h2 : decide (decode M.2.1 pc = .ok (i, len)) = true := h1
  of_decide_eq_true h2
def gFd (r ci k : Nat) : Option (Option Nat) := match gSh r with
  | .inl (c, fs) => bif Nat.beq c ci then fs[k]? else none
  | .inr _ => none
theorem gFd_of {r ci k : Nat} {x : Option Nat} (h : gFd r ci k = some x) : ∃ fs, gSh r = .inl (ci, fs) ∧ fs[k]? = some x := by
  unfold gFd at h
  split at h
  · rename_i c fs h1
    cases hb : Nat.beq c ci with
    | true =>
      rw [hb] at h
      rw [Nat.eq_of_beq_eq_true hb] at h1
      exact ⟨fs, h1, h⟩
    | false => rw [hb] at h; cases h
  · cases h
/-- o is where a design's objects begin -/
def gIsD (o : Nat) : Prop := ∀ k, k < 35 → gSh (o + k) = gDs o k
def gFdS (s : gSH) (ci k : Nat) : Option (Option Nat) := match s with
  | .inl (c, fs) => bif Nat.beq c ci then fs[k]? else none
  | .inr _ => none
theorem gFd_D {o j ci k : Nat} {x : Option Nat} (hD : gIsD o) (hj : j < 35) (h : gFdS (gDs o j) ci k = some x) : gFd (o + j) ci k = some x := by
  unfold gFd
  rw [hD j hj]
  exact h
/-- one int of the world is another -/
def gPut (σ : gST) (a i : Nat) (v : Int32) : gST := (gSA σ.1 a (upd (σ.1 a) i v), σ.2)
theorem gPut_at (σ : gST) (a i : Nat) (v : Int32) (b j : Nat) : (gPut σ a i v).1 b j = if b = a ∧ j = i then v else σ.1 b j := by
  unfold gPut gSA upd
  by_cases h : b = a
  · subst h
    by_cases h2 : j = i <;> simp [h2]
  · simp [h]
theorem gPut_2 (σ : gST) (a i : Nat) (v : Int32) : (gPut σ a i v).2 = σ.2 := rfl
theorem gPut_ne (σ : gST) {a b : Nat} (i : Nat) (v : Int32) (h : b ≠ a) : (gPut σ a i v).1 b = σ.1 b := gSA_ne _ _ h
section GO6
variable {κ : gK} {M : gM} {R : Room} {Z : gZ} {pc q : Nat} {L : gL} {st : List Value} {σ : gST} {n : Nat}
theorem go_top {v v' : Int32} (h : v = v') (kk : Go κ M R Z pc L (.int v' :: st) σ n) : Go κ M R Z pc L (.int v :: st) σ n := h ▸ kk
theorem go_top2 {v v' : Int32} {u : Value} (h : v = v') (kk : Go κ M R Z pc L (u :: .int v' :: st) σ n) : Go κ M R Z pc L (u :: .int v :: st) σ n := h ▸ kk
theorem go_getr {r r' ci k idx N : Nat} {Cn : String} {T : u_T} (hf : gFR M.1.cls idx ci k Cn T N) (hd : decode M.2.1 pc = .ok (.getfield idx, 3)) (hv : gFd r ci k = some (some r')) (hr : r < gN) (hq : pc + 3 = q)
    (kk : Go κ M R Z q L (.ref (κ.2.1 + r') :: st) σ n) : Go κ M R Z pc L (.ref (κ.2.1 + r) :: st) σ n := by
  obtain ⟨fs, h1, h2⟩ := gFd_of hv
  exact go_get hf hd h1 hr (by rw [gF_get, h2]; rfl) hq kk
theorem go_geti {r ci k idx N : Nat} {Cn : String} {T : u_T} (hf : gFR M.1.cls idx ci k Cn T N) (hd : decode M.2.1 pc = .ok (.getfield idx, 3)) (hv : gFd r ci k = some none) (hr : r < gN) (hq : pc + 3 = q)
    (kk : Go κ M R Z q L (.int (σ.1 r k) :: st) σ n) : Go κ M R Z pc L (.ref (κ.2.1 + r) :: st) σ n := by
  obtain ⟨fs, h1, h2⟩ := gFd_of hv
  exact go_get hf hd h1 hr (by rw [gF_get, h2, Nat.zero_add]; rfl) hq kk
theorem go_puti {r ci k idx N : Nat} {Cn : String} {T : u_T} {v : Int32} {ty0 : Nat → FieldType} (hf : gFR M.1.cls idx ci k Cn T N) (hT : gFT Cn T N ty0) (hd : decode M.2.1 pc = .ok (.putfield idx, 3)) (hv : gFd r ci k = some none) (hr : r < gN) (hfin : (T k).2.2.2 = false) (hn : narrow (ty0 k) (.int v) = .int v) (hfit : fits (ty0 k) (.int v) = true) (hq : pc + 3 = q)
    (kk : Go κ M R Z q L st (gPut σ r k v) n) : Go κ M R Z pc L (.int v :: .ref (κ.2.1 + r) :: st) σ n := by
  obtain ⟨fs, h1, h2⟩ := gFd_of hv
  exact go_put hf hT hd h1 hr h2 hfin hn hfit hq kk
theorem go_ialdN {r len j : Nat} (hd : decode M.2.1 pc = .ok (.iaload, 1)) (hs : gSh r = .inr (0, len)) (hr : r < gN) (hj : j < len) (hl : len < 2 ^ 31) (hq : pc + 1 = q) (kk : Go κ M R Z q L (.int (σ.1 r j) :: st) σ n) : Go κ M R Z pc L (.int (nI j) :: .ref (κ.2.1 + r) :: st) σ n := by
  refine go_iald hd hs hr (vp_in_nI hj hl) hq ?_
  rw [nI_clamp (Nat.lt_trans hj hl)]
  exact kk
theorem go_caldN {r len j : Nat} (hd : decode M.2.1 pc = .ok (.caload, 1)) (hs : gSh r = .inr (1, len)) (hr : r < gN) (hj : j < len) (hl : len < 2 ^ 31) (hq : pc + 1 = q) (kk : Go κ M R Z q L (.int (σ.1 r j) :: st) σ n) : Go κ M R Z pc L (.int (nI j) :: .ref (κ.2.1 + r) :: st) σ n := by
  refine go_cald hd hs hr (vp_in_nI hj hl) hq ?_
  rw [nI_clamp (Nat.lt_trans hj hl)]
  exact kk
theorem go_iastN {r len j : Nat} {x : Int32} (hd : decode M.2.1 pc = .ok (.iastore, 1)) (hs : gSh r = .inr (0, len)) (hr : r < gN) (hj : j < len) (hl : len < 2 ^ 31) (hq : pc + 1 = q) (kk : Go κ M R Z q L st (gPut σ r j x) n) : Go κ M R Z pc L (.int x :: .int (nI j) :: .ref (κ.2.1 + r) :: st) σ n := by
  refine go_iast hd hs hr (vp_in_nI hj hl) hq ?_
  rw [nI_clamp (Nat.lt_trans hj hl)]
  exact kk
theorem go_castN {r len j : Nat} {x : Int32} (hd : decode M.2.1 pc = .ok (.castore, 1)) (hs : gSh r = .inr (1, len)) (hr : r < gN) (hj : j < len) (hl : len < 2 ^ 31) (hq : pc + 1 = q) (kk : Go κ M R Z q L st (gPut σ r j (vp_nar .char x)) n) : Go κ M R Z pc L (.int x :: .int (nI j) :: .ref (κ.2.1 + r) :: st) σ n := by
  refine go_cast hd hs hr (vp_in_nI hj hl) hq ?_
  rw [nI_clamp (Nat.lt_trans hj hl)]
  exact kk
end GO6
theorem nI_mul (a b : Nat) : nI a * nI b = nI (a * b) := by
  unfold nI
  exact (Int32.ofNat_mul a b).symm
/-- m steps from i on -/
def gLoop {α : Type} (step : Nat → α → α) : Nat → Nat → α → α
  | _, 0, a => a
  | i, m + 1, a => gLoop step (i + 1) m (step i a)
/-- the first i of m from i on with f i = c, as an int, or -1 -/
def gFind (f : Nat → Int32) (c : Int32) : Nat → Nat → Int32
  | _, 0 => -1
  | i, m + 1 => if f i = c then nI i else gFind f c (i + 1) m
/-- the first n of f, the others of g -/
def gCpN (f g : Nat → Int32) (n : Nat) : Nat → Int32 := fun k => if k < n then f k else g k
theorem gCpN_of (f g : Nat → Int32) (n : Nat) : va_cpy f g 0 0 n = gCpN f g n := by
  funext k
  unfold va_cpy gCpN
  simp only [Nat.zero_le, true_and, Nat.zero_add, Nat.sub_zero]
