/-! the law's start: what the Statement gives is what the walks want -/
theorem gw_l {a b : Cond} {args : Array Value} {s : State} (h : (Cond.and a b).before args s = true) : a.before args s = true := by
  rw [Cond.before_and, Bool.and_eq_true] at h; exact h.1
theorem gw_r {a b : Cond} {args : Array Value} {s : State} (h : (Cond.and a b).before args s = true) : b.before args s = true := by
  rw [Cond.before_and, Bool.and_eq_true] at h; exact h.2
set_option maxHeartbeats 4000000 in
set_option maxRecDepth 100000 in
theorem gStr_0 {args : Array Value} {s : State} (hts : ∀ w ∈ lw_tbl, w.before args s = true) (hgv : (Cond.and given_1 narrow_1).before args s = true) : ∀ q ∈ gStr, ∃ a, vk_R RX10 q.1 q.2 a s := by
  have n0 := gw_r hgv
  have n1 : narrow_1_1.before args s = true := gw_l (gw_l n0)
  have n2 : narrow_1_2.before args s = true := gw_r (gw_l n0)
  have n3 : narrow_1_3.before args s = true := gw_l (gw_r n0)
  have n4 : narrow_1_4.before args s = true := gw_r (gw_r n0)
  have one : ∀ (k : Nat) (tx : String), (Cond.stringRef RX10 k tx).before args s = true → (Cond.exactly (.string RX10 k) "java/lang/String").before args s = true → ∃ a, vk_R RX10 k tx a s := by
    intro k tx h1 h2
    obtain ⟨a, -, -, -, ha, -⟩ := Cond.exactly_spec h2
    exact ⟨a, vk_R.of h1 ha⟩
  exact (List.forall_mem_cons.mpr ⟨one 65 _ (hts _ (gI2 (List.mem_of_getElem? (i := 171) rfl))) (gw_r (gw_r (gw_r (gw_r (gw_l (gw_l (gw_l (gw_r (gw_l n1))))))))),
    (List.forall_mem_cons.mpr ⟨one 86 _ (hts _ (gI2 (List.mem_of_getElem? (i := 219) rfl))) (gw_r (gw_r (gw_l (gw_l (gw_r (gw_r (gw_l (gw_r (gw_l n1))))))))),
    (List.forall_mem_cons.mpr ⟨one 497 _ (hts _ (gI3 (List.mem_of_getElem? (i := 52) rfl))) (gw_l (gw_r (gw_r (gw_l (gw_l (gw_r (gw_r (gw_r (gw_l n1))))))))),
    (List.forall_mem_cons.mpr ⟨one 100 _ (hts _ (gI3 (List.mem_of_getElem? (i := 56) rfl))) (gw_l (gw_l (gw_r (gw_r (gw_r (gw_r (gw_r (gw_r (gw_l n1))))))))),
    (List.forall_mem_cons.mpr ⟨one 509 _ (hts _ (gI3 (List.mem_of_getElem? (i := 62) rfl))) (gw_l (gw_r (gw_l (gw_l (gw_r (gw_r (gw_l (gw_l (gw_r n1))))))))),
    (List.forall_mem_cons.mpr ⟨one 109 _ (hts _ (gI3 (List.mem_of_getElem? (i := 67) rfl))) (gw_r (gw_r (gw_l (gw_r (gw_r (gw_l (gw_r (gw_l (gw_r n1))))))))),
    (List.forall_mem_cons.mpr ⟨one 499 _ (hts _ (gI3 (List.mem_of_getElem? (i := 110) rfl))) (gw_l (gw_r (gw_l (gw_r (gw_l (gw_l (gw_l (gw_r (gw_r n1))))))))),
    (List.forall_mem_cons.mpr ⟨one 501 _ (hts _ (gI3 (List.mem_of_getElem? (i := 112) rfl))) (gw_l (gw_r (gw_l (gw_l (gw_l (gw_r (gw_l (gw_r (gw_r n1))))))))),
    (List.forall_mem_cons.mpr ⟨one 142 _ (hts _ (gI3 (List.mem_of_getElem? (i := 159) rfl))) (gw_l (gw_l (gw_r (gw_r (gw_r (gw_l (gw_r (gw_r n1)))))))),
    (List.forall_mem_cons.mpr ⟨one 176 _ (hts _ (gI3 (List.mem_of_getElem? (i := 221) rfl))) (gw_r (gw_l (gw_r (gw_r (gw_r (gw_l (gw_r (gw_r (gw_r n1))))))))),
    (List.forall_mem_cons.mpr ⟨one 503 _ (hts _ (gI4 (List.mem_of_getElem? (i := 21) rfl))) (gw_l (gw_r (gw_r (gw_r (gw_r (gw_r (gw_r (gw_r (gw_r n1))))))))),
    (List.forall_mem_cons.mpr ⟨one 197 _ (hts _ (gI4 (List.mem_of_getElem? (i := 23) rfl))) (gw_r (gw_r (gw_l (gw_l (gw_r (gw_l (gw_l (gw_l (gw_l n2))))))))),
    (List.forall_mem_cons.mpr ⟨one 213 _ (hts _ (gI4 (List.mem_of_getElem? (i := 39) rfl))) (gw_r (gw_r (gw_r (gw_r (gw_r (gw_r (gw_l (gw_l (gw_l n2))))))))),
    (List.forall_mem_cons.mpr ⟨one 224 _ (hts _ (gI4 (List.mem_of_getElem? (i := 54) rfl))) (gw_r (gw_r (gw_l (gw_r (gw_l (gw_r (gw_r (gw_l (gw_l n2))))))))),
    (List.forall_mem_cons.mpr ⟨one 233 _ (hts _ (gI4 (List.mem_of_getElem? (i := 73) rfl))) (gw_r (gw_l (gw_r (gw_r (gw_r (gw_l (gw_l (gw_r (gw_l n2))))))))),
    (List.forall_mem_cons.mpr ⟨one 251 _ (hts _ (gI4 (List.mem_of_getElem? (i := 107) rfl))) (gw_l (gw_r (gw_l (gw_r (gw_l (gw_l (gw_r (gw_r (gw_l n2))))))))),
    (List.forall_mem_cons.mpr ⟨one 515 _ (hts _ (gI4 (List.mem_of_getElem? (i := 130) rfl))) (gw_r (gw_r (gw_r (gw_r (gw_r (gw_l (gw_r (gw_r (gw_l n2))))))))),
    (List.forall_mem_cons.mpr ⟨one 279 _ (hts _ (gI4 (List.mem_of_getElem? (i := 160) rfl))) (gw_r (gw_r (gw_l (gw_l (gw_l (gw_l (gw_l (gw_l (gw_r n2))))))))),
    (List.forall_mem_cons.mpr ⟨one 287 _ (hts _ (gI4 (List.mem_of_getElem? (i := 174) rfl))) (gw_l (gw_r (gw_r (gw_r (gw_l (gw_r (gw_l (gw_l (gw_r n2))))))))),
    (List.forall_mem_cons.mpr ⟨one 301 _ (hts _ (gI4 (List.mem_of_getElem? (i := 213) rfl))) (gw_l (gw_r (gw_r (gw_l (gw_l (gw_r (gw_l (gw_r n2)))))))),
    (List.forall_mem_cons.mpr ⟨one 307 _ (hts _ (gI4 (List.mem_of_getElem? (i := 227) rfl))) (gw_l (gw_l (gw_l (gw_l (gw_l (gw_l (gw_r (gw_r n2)))))))),
    (List.forall_mem_cons.mpr ⟨one 505 _ (hts _ (gI5 (List.mem_of_getElem? (i := 8) rfl))) (gw_r (gw_r (gw_l (gw_r (gw_l (gw_r (gw_l (gw_r (gw_r n2))))))))),
    (List.forall_mem_cons.mpr ⟨one 519 _ (hts _ (gI5 (List.mem_of_getElem? (i := 33) rfl))) (gw_r (gw_r (gw_r (gw_r (gw_r (gw_r (gw_l (gw_r (gw_r n2))))))))),
    (List.forall_mem_cons.mpr ⟨one 331 _ (hts _ (gI5 (List.mem_of_getElem? (i := 36) rfl))) (gw_r (gw_r (gw_l (gw_l (gw_r (gw_r (gw_r (gw_r (gw_r n2))))))))),
    (List.forall_mem_cons.mpr ⟨one 340 _ (hts _ (gI5 (List.mem_of_getElem? (i := 57) rfl))) (gw_r (gw_r (gw_l (gw_l (gw_r (gw_l (gw_l (gw_l (gw_l n3))))))))),
    (List.forall_mem_cons.mpr ⟨one 356 _ (hts _ (gI5 (List.mem_of_getElem? (i := 87) rfl))) (gw_l (gw_l (gw_r (gw_r (gw_r (gw_l (gw_l (gw_l n3)))))))),
    (List.forall_mem_cons.mpr ⟨one 365 _ (hts _ (gI5 (List.mem_of_getElem? (i := 99) rfl))) (gw_l (gw_r (gw_l (gw_r (gw_r (gw_r (gw_r (gw_l (gw_l n3))))))))),
    (List.forall_mem_cons.mpr ⟨one 381 _ (hts _ (gI5 (List.mem_of_getElem? (i := 134) rfl))) (gw_l (gw_l (gw_r (gw_r (gw_r (gw_l (gw_l (gw_r (gw_l n3))))))))),
    (List.forall_mem_cons.mpr ⟨one 386 _ (hts _ (gI5 (List.mem_of_getElem? (i := 146) rfl))) (gw_l (gw_r (gw_r (gw_l (gw_l (gw_r (gw_r (gw_r (gw_l n3))))))))),
    (List.forall_mem_cons.mpr ⟨one 394 _ (hts _ (gI5 (List.mem_of_getElem? (i := 169) rfl))) (gw_r (gw_r (gw_r (gw_l (gw_r (gw_l (gw_l (gw_l (gw_r n3))))))))),
    (List.forall_mem_cons.mpr ⟨one 523 _ (hts _ (gI5 (List.mem_of_getElem? (i := 185) rfl))) (gw_l (gw_r (gw_r (gw_r (gw_l (gw_l (gw_r (gw_l (gw_r n3))))))))),
    (List.forall_mem_cons.mpr ⟨one 410 _ (hts _ (gI5 (List.mem_of_getElem? (i := 208) rfl))) (gw_l (gw_r (gw_r (gw_l (gw_r (gw_r (gw_r (gw_l (gw_r n3))))))))),
    (List.forall_mem_cons.mpr ⟨one 412 _ (hts _ (gI5 (List.mem_of_getElem? (i := 209) rfl))) (gw_l (gw_r (gw_l (gw_r (gw_r (gw_l (gw_l (gw_r (gw_r n3))))))))),
    (List.forall_mem_cons.mpr ⟨one 425 _ (hts _ (gI5 (List.mem_of_getElem? (i := 230) rfl))) (gw_l (gw_r (gw_l (gw_r (gw_r (gw_r (gw_l (gw_r (gw_r n3))))))))),
    (List.forall_mem_cons.mpr ⟨one 430 _ (hts _ (gI5 (List.mem_of_getElem? (i := 237) rfl))) (gw_r (gw_r (gw_l (gw_r (gw_l (gw_r (gw_r (gw_r (gw_r n3))))))))),
    (List.forall_mem_cons.mpr ⟨one 437 _ (hts _ (gI6 (List.mem_of_getElem? (i := 20) rfl))) (gw_r (gw_l (gw_l (gw_r (gw_l (gw_l (gw_l n4))))))),
    (List.forall_mem_cons.mpr ⟨one 445 _ (hts _ (gI6 (List.mem_of_getElem? (i := 36) rfl))) (gw_l (gw_r (gw_l (gw_r (gw_r (gw_l (gw_l n4))))))),
    (List.forall_mem_cons.mpr ⟨one 466 _ (hts _ (gI6 (List.mem_of_getElem? (i := 125) rfl))) (gw_r (gw_l (gw_l (gw_r (gw_l (gw_r (gw_l n4))))))),
    (List.forall_mem_cons.mpr ⟨one 474 _ (hts _ (gI6 (List.mem_of_getElem? (i := 137) rfl))) (gw_l (gw_l (gw_r (gw_r (gw_r (gw_r (gw_l n4))))))),
    (List.forall_mem_cons.mpr ⟨one 483 _ (hts _ (gI6 (List.mem_of_getElem? (i := 159) rfl))) (gw_r (gw_l (gw_r (gw_r (gw_r (gw_l (gw_r n4))))))),
    (List.forall_mem_cons.mpr ⟨one 494 _ (hts _ (gI6 (List.mem_of_getElem? (i := 176) rfl))) (gw_l (gw_r (gw_r (gw_r (gw_l (gw_r (gw_r n4))))))),
    (fun _ h => absurd h List.not_mem_nil)⟩)⟩)⟩)⟩)⟩)⟩)⟩)⟩)⟩)⟩)⟩)⟩)⟩)⟩)⟩)⟩)⟩)⟩)⟩)⟩)⟩)⟩)⟩)⟩)⟩)⟩)⟩)⟩)⟩)⟩)⟩)⟩)⟩)⟩)⟩)⟩)⟩)⟩)⟩)⟩)⟩)
set_option maxHeartbeats 4000000 in
set_option maxRecDepth 100000 in
theorem gNcs_0 {args : Array Value} {s : State} (hts : ∀ w ∈ lw_tbl, w.before args s = true) (hgv : (Cond.and given_1 narrow_1).before args s = true) : ∀ q ∈ gNcs, va_Nc q.1 q.2 s := by
  have n0 := gw_r hgv
  have n1 : narrow_1_1.before args s = true := gw_l (gw_l n0)
  have n2 : narrow_1_2.before args s = true := gw_r (gw_l n0)
  have n3 : narrow_1_3.before args s = true := gw_l (gw_r n0)
  have n4 : narrow_1_4.before args s = true := gw_r (gw_r n0)
  exact (List.forall_mem_cons.mpr ⟨va_Nc.of (gw_l (gw_r (gw_r (gw_l (gw_r (gw_l (gw_l (gw_l (gw_l n1))))))))),
    (List.forall_mem_cons.mpr ⟨va_Nc.of (gw_r (gw_r (gw_l (gw_l (gw_l (gw_l (gw_r (gw_l (gw_l n1))))))))),
    (List.forall_mem_cons.mpr ⟨va_Nc.of (gw_l (gw_r (gw_l (gw_l (gw_l (gw_r (gw_l (gw_l n1)))))))),
    (List.forall_mem_cons.mpr ⟨va_Nc.of (gw_r (gw_r (gw_r (gw_l (gw_l (gw_l (gw_r (gw_l (gw_l n1))))))))),
    (List.forall_mem_cons.mpr ⟨va_Nc.of (gw_r (gw_r (gw_l (gw_r (gw_r (gw_l (gw_l (gw_l (gw_l n1))))))))),
    (List.forall_mem_cons.mpr ⟨va_Nc.of (gw_l (gw_r (gw_l (gw_r (gw_r (gw_l (gw_l (gw_l (gw_l n1))))))))),
    (fun _ h => absurd h List.not_mem_nil)⟩)⟩)⟩)⟩)⟩)⟩)
set_option maxHeartbeats 4000000 in
set_option maxRecDepth 100000 in
theorem gZq_0 {args : Array Value} {s : State} (hts : ∀ w ∈ lw_tbl, w.before args s = true) (hgv : (Cond.and given_1 narrow_1).before args s = true) {A : Nat → Prop} (hA : ∀ a : Nat, a < s.heap.size → ¬ A a) : vx_Zq Bundle.tN "UNASSIGNED_STACK" Bundle.steD A s s.heap ∧ vx_Zq Bundle.tN "SUPPRESSED_SENTINEL" Bundle.listD A s s.heap := by
  have n0 := gw_r hgv
  have n1 : narrow_1_1.before args s = true := gw_l (gw_l n0)
  have n2 : narrow_1_2.before args s = true := gw_r (gw_l n0)
  have n3 : narrow_1_3.before args s = true := gw_l (gw_r n0)
  have n4 : narrow_1_4.before args s = true := gw_r (gw_r n0)
  exact ⟨vx_Zqof (hts _ (gI2 (List.mem_of_getElem? (i := 153) rfl))) (hts _ (gI1 (List.mem_of_getElem? (i := 13) rfl))) (gw_r (gw_r (gw_l (gw_l (gw_l (gw_l (gw_l (gw_l (gw_l n1))))))))) hA, vx_Zqof (hts _ (gI2 (List.mem_of_getElem? (i := 155) rfl))) (hts _ (gI1 (List.mem_of_getElem? (i := 13) rfl))) (gw_l (gw_r (gw_l (gw_l (gw_l (gw_l (gw_l (gw_l n1)))))))) hA⟩
set_option maxHeartbeats 4000000 in
set_option maxRecDepth 100000 in
theorem gK_0 {args : Array Value} {s : State} (hts : ∀ w ∈ lw_tbl, w.before args s = true) (hgv : (Cond.and given_1 narrow_1).before args s = true) : ∃ (D : va_G) (f : Nat → ClassId), va_K D gCl [(f 0, .int), (f 1, .char), (f 2, .long), (f 3, .double), (f 4, .object RX1)] s := by
  have hg : ∀ w ∈ gTg, w.before args s = true := fun w hw => hts w (List.mem_filter.mp hw).1
  have hk : ∀ k : Nat, ∃ p : ClassId × (Nat → Nat), ∀ q : vw_C, gCl[k]? = some q → u_Kn s q.1 q.2.1 q.2.2 p.1 p.2 := by
    intro k
    match k with
    | 0 =>
      obtain ⟨cC, iS, h⟩ := u_known (C := RX0) (T := TX0) (N := 3) hg gin0 (hts _ (gI1 (List.mem_of_getElem? (i := 78) rfl)))
      exact ⟨(cC, iS), fun q hq => by cases hq; exact h⟩
    | 1 =>
      obtain ⟨cC, iS, h⟩ := u_known (C := RX1) (T := TX1) (N := 6) hg gin1 (hts _ (gI1 (List.mem_of_getElem? (i := 36) rfl)))
      exact ⟨(cC, iS), fun q hq => by cases hq; exact h⟩
    | 2 =>
      obtain ⟨cC, iS, h⟩ := u_known (C := RX2) (T := TX2) (N := 12) hg gin2 (hts _ (gI1 (List.mem_of_getElem? (i := 203) rfl)))
      exact ⟨(cC, iS), fun q hq => by cases hq; exact h⟩
    | 3 =>
      obtain ⟨cC, iS, h⟩ := u_known (C := RX3) (T := TX3) (N := 3) hg gin3 (hts _ (gI1 (List.mem_of_getElem? (i := 169) rfl)))
      exact ⟨(cC, iS), fun q hq => by cases hq; exact h⟩
    | 4 =>
      obtain ⟨cC, iS, h⟩ := u_known (C := RX4) (T := TX4) (N := 6) hg gin4 (hts _ (gI1 (List.mem_of_getElem? (i := 96) rfl)))
      exact ⟨(cC, iS), fun q hq => by cases hq; exact h⟩
    | 5 =>
      obtain ⟨cC, iS, h⟩ := u_known (C := RX5) (T := TX5) (N := 6) hg gin5 (hts _ (gI1 (List.mem_of_getElem? (i := 42) rfl)))
      exact ⟨(cC, iS), fun q hq => by cases hq; exact h⟩
    | 6 =>
      obtain ⟨cC, iS, h⟩ := u_known (C := RX6) (T := TX6) (N := 10) hg gin6 (hts _ (gI2 (List.mem_of_getElem? (i := 8) rfl)))
      exact ⟨(cC, iS), fun q hq => by cases hq; exact h⟩
    | 7 =>
      obtain ⟨cC, iS, h⟩ := u_known (C := RX7) (T := TX7) (N := 1) hg gin7 (hts _ (gI1 (List.mem_of_getElem? (i := 48) rfl)))
      exact ⟨(cC, iS), fun q hq => by cases hq; exact h⟩
    | 8 =>
      obtain ⟨cC, iS, h⟩ := u_known (C := RX8) (T := TX8) (N := 3) hg gin8 (hts _ (gI1 (List.mem_of_getElem? (i := 123) rfl)))
      exact ⟨(cC, iS), fun q hq => by cases hq; exact h⟩
    | 9 =>
      obtain ⟨cC, iS, h⟩ := u_known (C := RX9) (T := TX9) (N := 2) hg gin9 (hts _ (gI1 (List.mem_of_getElem? (i := 188) rfl)))
      exact ⟨(cC, iS), fun q hq => by cases hq; exact h⟩
    | 10 =>
      obtain ⟨cC, iS, h⟩ := u_known (C := RX10) (T := TX10) (N := 8) hg gin10 (hts _ (gI1 (List.mem_of_getElem? (i := 28) rfl)))
      exact ⟨(cC, iS), fun q hq => by cases hq; exact h⟩
    | 11 =>
      obtain ⟨cC, iS, h⟩ := u_known (C := RX11) (T := TX11) (N := 25) hg gin11 (hts _ (gI6 (List.mem_of_getElem? (i := 182) rfl)))
      exact ⟨(cC, iS), fun q hq => by cases hq; exact h⟩
    | k + 12 =>
      obtain ⟨cC, iS, h⟩ := u_known (C := RX0) (T := TX0) (N := 3) hg gin0 (hts _ (gI1 (List.mem_of_getElem? (i := 78) rfl)))
      exact ⟨(cC, iS), fun q hq => by cases hq⟩
  obtain ⟨p, hp⟩ := Classical.axiomOfChoice hk
  obtain ⟨cI, kI, coI, i1, i2, i3⟩ := Cond.arrayClass_spec (hts _ (gI1 (List.mem_of_getElem? (i := 57) rfl)))
  obtain ⟨cC, kC, coC, c1, c2, c3⟩ := Cond.arrayClass_spec (hts _ (gI7 (List.mem_of_getElem? (i := 23) rfl)))
  obtain ⟨cL, kL, coL, l1, l2, l3⟩ := Cond.arrayClass_spec (hts _ (gI8 (List.mem_of_getElem? (i := 148) rfl)))
  obtain ⟨cD, kD, coD, d1, d2, d3⟩ := Cond.arrayClass_spec (hts _ (gI8 (List.mem_of_getElem? (i := 149) rfl)))
  obtain ⟨coO, cO, kO, o1, -, o3, o4, o5⟩ := Cond.arrayOver_spec (hts _ (gI1 (List.mem_of_getElem? (i := 175) rfl)))
  refine ⟨(fun k => (p k).1, fun k => (p k).2), (fun i => if i = 0 then cI else if i = 1 then cC else if i = 2 then cL else if i = 3 then cD else cO), fun c q hq => hp c q hq, fun k q hq => ?_⟩
  match k, hq with
  | 0, hq => cases hq; exact ⟨fun n z => ⟨fun k h => (by cases h), kI, i2, coI, i3⟩, i1⟩
  | 1, hq => cases hq; exact ⟨fun n z => ⟨fun k h => (by cases h), kC, c2, coC, c3⟩, c1⟩
  | 2, hq => cases hq; exact ⟨fun n z => ⟨fun k h => (by cases h), kL, l2, coL, l3⟩, l1⟩
  | 3, hq => cases hq; exact ⟨fun n z => ⟨fun k h => (by cases h), kD, d2, coD, d3⟩, d1⟩
  | 4, hq => cases hq; exact ⟨fun n z => ⟨fun k h => (by cases h), kO, o3, coO, o4⟩, kO, coO, o3, o4, o1, o5⟩
  | k + 5, hq => cases hq
theorem gGood_0 {args : Array Value} {s : State} {w : Cond} (hg : gGood w = true) (h : w.before args s = true) : w.before #[] s = true := by
  unfold gGood at hg
  split at hg
  · exact va_Nw.of rfl h
  · exact va_Nw.of rfl h
  · exact va_Nw.of rfl h
  · exact va_Nw.of rfl h
  · exact word_at (State.WarmedH.refl s) (good_of_word hg) h
set_option maxHeartbeats 4000000 in
set_option maxRecDepth 100000 in
theorem gG_0 {args : Array Value} {s : State} (hts : ∀ w ∈ lw_tbl, w.before args s = true) (hgv : (Cond.and given_1 narrow_1).before args s = true) {l : Launch} {b L : Nat} {xs : Nat → Int32} (hflags : l.flags = flags0) (hX : va_X b L xs s s.heap) (hb : b < s.heap.size) : ∃ (D : va_G) (f : Nat → ClassId), gG (l, s.heap.size, D, f, b, L, xs) s := by
  obtain ⟨D, f, hK⟩ := gK_0 hts hgv
  obtain ⟨z1, z2⟩ := gZq_0 hts hgv (A := fun q => s.heap.size ≤ q) (fun a h => Nat.not_le.mpr h)
  refine ⟨D, f, fun w hw hg => gGood_0 hg (hts w hw), hK, z1, z2, gStr_0 hts hgv, gNcs_0 hts hgv, hX, hb, ?_⟩
  show l.stackTraces = false
  unfold Launch.stackTraces
  rw [hflags]
  decide +kernel
