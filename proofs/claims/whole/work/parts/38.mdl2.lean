set_option maxHeartbeats 4000000 in
set_option maxRecDepth 100000 in
theorem lpX11_withCode {κ : gK} {σ σ' τ : gST} {code : Int32} {o : gO} (hW : gDW τ) (hM : gMR τ (σ.1 377)) (hσ : σ' = σ) : ∀ (m i : Nat), i + m = gNg τ → o = .inl (some (.int (gFind (τ.1 4) code i m))) → Go κ mX11_withCode (gRm 2 0) (gZm κ o σ' 0) 2 [(0, .ref (κ.2.1 + 376)), (1, .int code), (2, .int (nI i))] [] σ 0 := by
  have h24 := hW.ng24
  intro m
  induction m with
  | zero =>
    intro i hi ho
    refine go_iload_n (q := 3) (gDec iX11_withCode_ok 2 rfl) rfl rfl rfl ?_
    refine go_aload_n (q := 4) (gDec iX11_withCode_ok 3 rfl) rfl rfl rfl ?_
    refine go_getr (r' := 377) (q := 7) fX11_9 (gDec iX11_withCode_ok 4 rfl) rfl (by decide) rfl ?_
    refine go_iconst (v := 0) (q := 8) (gDec iX11_withCode_ok 5 rfl) (by decide) rfl ?_
    refine go_top (v' := nI 0) (rfl) ?_
    refine go_ialdN (q := 9) (gDec iX11_withCode_ok 6 rfl) rfl (by decide) (by omega) (by decide) rfl ?_
    refine go_top (v' := nI (gNg τ)) (hM.ng hW) ?_
    refine go_icmp_ge (t := 30) (q := 12) (gDec iX11_withCode_ok 7 rfl) (by decide) rfl (fun c9 => ?_) (fun c9 => False.elim (c9 (nI_le (by omega) (by omega))))
    refine go_iconst (v := (-1)) (q := 31) (gDec iX11_withCode_ok 18 rfl) (by decide) rfl ?_
    exact go_ireturn (gDec iX11_withCode_ok 19 rfl) rfl rfl ho hσ (by decide)
  | succ m ih =>
    intro i hi ho
    rw [gFind] at ho
    refine go_iload_n (q := 3) (gDec iX11_withCode_ok 2 rfl) rfl rfl rfl ?_
    refine go_aload_n (q := 4) (gDec iX11_withCode_ok 3 rfl) rfl rfl rfl ?_
    refine go_getr (r' := 377) (q := 7) fX11_9 (gDec iX11_withCode_ok 4 rfl) rfl (by decide) rfl ?_
    refine go_iconst (v := 0) (q := 8) (gDec iX11_withCode_ok 5 rfl) (by decide) rfl ?_
    refine go_top (v' := nI 0) (rfl) ?_
    refine go_ialdN (q := 9) (gDec iX11_withCode_ok 6 rfl) rfl (by decide) (by omega) (by decide) rfl ?_
    refine go_top (v' := nI (gNg τ)) (hM.ng hW) ?_
    refine go_icmp_ge (t := 30) (q := 12) (gDec iX11_withCode_ok 7 rfl) (by decide) rfl (fun c9 => False.elim (nI_ge (a := i) (b := gNg τ) (by omega) (by omega) c9)) (fun c9 => ?_)
    refine go_aload_n (q := 13) (gDec iX11_withCode_ok 8 rfl) rfl rfl rfl ?_
    refine go_iload_n (q := 14) (gDec iX11_withCode_ok 9 rfl) rfl rfl rfl ?_
    refine go_iconst (v := nI 0) (q := 15) (gDec iX11_withCode_ok 10 rfl) (by decide) rfl ?_
    refine go_callV (n2 := 0) (q := 18) kX11_69 (ctX11_of (g := i) (w := 0) (by omega)) (gDec iX11_withCode_ok 11 rfl) rfl rfl (by decide) rfl rfl rfl (Nat.le_of_ble_eq_true rfl) rfl (gFit_rm (by decide) (by decide)) rfl ?_
    refine go_top (v' := τ.1 4 i) (hM.code (by omega) rfl) ?_
    refine go_iload_n (q := 19) (gDec iX11_withCode_ok 12 rfl) rfl rfl rfl ?_
    refine go_icmp_ne (t := 24) (q := 22) (gDec iX11_withCode_ok 13 rfl) (by decide) rfl (fun c19 => ?_) (fun c19 => ?_)
    · refine go_iinc (v := nI (i + 1)) (q := 27) (gDec iX11_withCode_ok 16 rfl) rfl (nI_1 _) (by decide) rfl ?_
      refine go_goto (t := 2) (gDec iX11_withCode_ok 17 rfl) (by decide) ?_
      refine go_sub (L' := [(0, .ref (κ.2.1 + 376)), (1, .int code), (2, .int (nI (i + 1)))]) ⟨rfl, rfl, rfl, trivial⟩ ?_
      exact ih (i + 1) (by omega) (ho.trans (by rw [if_neg c19]))
    · refine go_iload_n (q := 23) (gDec iX11_withCode_ok 14 rfl) rfl rfl rfl ?_
      exact go_ireturn (gDec iX11_withCode_ok 15 rfl) rfl rfl (ho.trans (by rw [if_pos c19])) hσ (by decide)

set_option maxHeartbeats 4000000 in
set_option maxRecDepth 100000 in
theorem ctX11_withCode {κ : gK} {σ : gST} {τ : gST} {code : Int32} (hW : gDW τ) (hM : gMR τ (σ.1 377)) : gCt κ mX11_withCode 2 [.ref (κ.2.1 + 376), .int code] σ (.inl (some (.int (gFind (τ.1 4) code 0 (gNg τ))))) σ 0 := by
  refine ct_of (by decide +kernel) rfl (Nat.le_of_ble_eq_true rfl) rfl ?_
  refine go_iconst (v := nI 0) (q := 1) (gDec iX11_withCode_ok 0 rfl) (by decide) rfl ?_
  refine go_istore_n (q := 2) (gDec iX11_withCode_ok 1 rfl) rfl (by decide) rfl ?_
  refine go_sub (L' := [(0, .ref (κ.2.1 + 376)), (1, .int code), (2, .int (nI 0))]) ⟨rfl, rfl, rfl, trivial⟩ ?_
  exact lpX11_withCode hW hM rfl (gNg τ) 0 (by omega) rfl

set_option maxHeartbeats 4000000 in
set_option maxRecDepth 100000 in
theorem lpX11_pointsOf {κ : gK} {Z : gZ} {σ : gST} {τ : gST}  {g : Nat} (hW : gDW τ) (hM : gMR τ (σ.1 377)) (hg : g < gNg τ) : ∀ (m i : Nat) (a : Int32), i + m = (gNc τ g) → Go κ mX11_pointsOf (gRm 2 0) Z 31 [(0, .ref (κ.2.1 + 376)), (1, .int (nI g)), (2, .int (gLoop (fun c a => a + τ.1 8 (g * 3 + c)) i m a)), (3, .int (nI (gNc τ g)))] [] σ 0 → Go κ mX11_pointsOf (gRm 2 0) Z 4 [(0, .ref (κ.2.1 + 376)), (1, .int (nI g)), (2, .int a), (3, .int (nI i))] [] σ 0 := by
  have h24 := hW.ng24
  have h3 := hW.nc3 (g := g) (by omega)
  intro m
  induction m with
  | zero =>
    intro i a hi h
    have hiN : (gNc τ g) = i := by omega
    rw [hiN] at h
    refine go_iload_n (q := 5) (gDec iX11_pointsOf_ok 4 rfl) rfl rfl rfl ?_
    refine go_aload_n (q := 6) (gDec iX11_pointsOf_ok 5 rfl) rfl rfl rfl ?_
    refine go_iload_n (q := 7) (gDec iX11_pointsOf_ok 6 rfl) rfl rfl rfl ?_
    refine go_iconst (v := nI 1) (q := 8) (gDec iX11_pointsOf_ok 7 rfl) (by decide) rfl ?_
    refine go_callV (n2 := 0) (q := 11) kX11_69 (ctX11_of (g := g) (w := 1) (by omega)) (gDec iX11_pointsOf_ok 8 rfl) rfl rfl (by decide) rfl rfl rfl (Nat.le_of_ble_eq_true rfl) rfl (gFit_rm (by decide) (by decide)) rfl ?_
    refine go_top (v' := nI (gNc τ g)) (hM.nc hW hg rfl) ?_
    refine go_icmp_ge (t := 31) (q := 14) (gDec iX11_pointsOf_ok 9 rfl) (by decide) rfl (fun c11 => ?_) (fun c11 => False.elim (c11 (nI_le (a := (gNc τ g)) (b := i) (by omega) (by omega))))
    refine go_sub (L' := [(0, .ref (κ.2.1 + 376)), (1, .int (nI g)), (2, .int a), (3, .int (nI i))]) ⟨rfl, rfl, rfl, rfl, trivial⟩ ?_
    exact h
  | succ m ih =>
    intro i a hi h
    refine go_iload_n (q := 5) (gDec iX11_pointsOf_ok 4 rfl) rfl rfl rfl ?_
    refine go_aload_n (q := 6) (gDec iX11_pointsOf_ok 5 rfl) rfl rfl rfl ?_
    refine go_iload_n (q := 7) (gDec iX11_pointsOf_ok 6 rfl) rfl rfl rfl ?_
    refine go_iconst (v := nI 1) (q := 8) (gDec iX11_pointsOf_ok 7 rfl) (by decide) rfl ?_
    refine go_callV (n2 := 0) (q := 11) kX11_69 (ctX11_of (g := g) (w := 1) (by omega)) (gDec iX11_pointsOf_ok 8 rfl) rfl rfl (by decide) rfl rfl rfl (Nat.le_of_ble_eq_true rfl) rfl (gFit_rm (by decide) (by decide)) rfl ?_
    refine go_top (v' := nI (gNc τ g)) (hM.nc hW hg rfl) ?_
    refine go_icmp_ge (t := 31) (q := 14) (gDec iX11_pointsOf_ok 9 rfl) (by decide) rfl (fun c11 => False.elim (nI_ge (a := i) (b := (gNc τ g)) (by omega) (by omega) c11)) (fun c11 => ?_)
    refine go_iload_n (q := 15) (gDec iX11_pointsOf_ok 10 rfl) rfl rfl rfl ?_
    refine go_aload_n (q := 16) (gDec iX11_pointsOf_ok 11 rfl) rfl rfl rfl ?_
    refine go_iload_n (q := 17) (gDec iX11_pointsOf_ok 12 rfl) rfl rfl rfl ?_
    refine go_iconst (v := nI 2) (q := 18) (gDec iX11_pointsOf_ok 13 rfl) (by decide) rfl ?_
    refine go_iload_n (q := 19) (gDec iX11_pointsOf_ok 14 rfl) rfl rfl rfl ?_
    refine go_iaddN (c := 2 + i) (q := 20) (gDec iX11_pointsOf_ok 15 rfl) rfl rfl ?_
    refine go_callV (n2 := 0) (q := 23) kX11_69 (ctX11_of (g := g) (w := 2 + i) (by omega)) (gDec iX11_pointsOf_ok 16 rfl) rfl rfl (by decide) rfl rfl rfl (Nat.le_of_ble_eq_true rfl) rfl (gFit_rm (by decide) (by decide)) rfl ?_
    refine go_top (v' := τ.1 8 (g * 3 + i)) (hM.np0 hg (by omega) rfl) ?_
    refine go_iadd (q := 24) (gDec iX11_pointsOf_ok 17 rfl) rfl ?_
    refine go_istore_n (q := 25) (gDec iX11_pointsOf_ok 18 rfl) rfl (by decide) rfl ?_
    refine go_iinc (v := nI (i + 1)) (q := 28) (gDec iX11_pointsOf_ok 19 rfl) rfl (nI_1 _) (by decide) rfl ?_
    refine go_goto (t := 4) (gDec iX11_pointsOf_ok 20 rfl) (by decide) ?_
    refine go_sub (L' := [(0, .ref (κ.2.1 + 376)), (1, .int (nI g)), (2, .int ((fun c a => a + τ.1 8 (g * 3 + c)) i a)), (3, .int (nI (i + 1)))]) ⟨rfl, rfl, rfl, rfl, trivial⟩ ?_
    exact ih (i + 1) ((fun c a => a + τ.1 8 (g * 3 + c)) i a) (by omega) h

set_option maxHeartbeats 4000000 in
set_option maxRecDepth 100000 in
theorem ctX11_pointsOf {κ : gK} {σ : gST} {τ : gST}  {g : Nat} (hW : gDW τ) (hM : gMR τ (σ.1 377)) (hg : g < gNg τ) : gCt κ mX11_pointsOf 2 [.ref (κ.2.1 + 376), .int (nI g)] σ (.inl (some (.int (gLoop (fun c a => a + τ.1 8 (g * 3 + c)) 0 (gNc τ g) 0)))) σ 0 := by
  refine ct_of (by decide +kernel) rfl (Nat.le_of_ble_eq_true rfl) rfl ?_
  refine go_iconst (v := 0) (q := 1) (gDec iX11_pointsOf_ok 0 rfl) (by decide) rfl ?_
  refine go_istore_n (q := 2) (gDec iX11_pointsOf_ok 1 rfl) rfl (by decide) rfl ?_
  refine go_iconst (v := nI 0) (q := 3) (gDec iX11_pointsOf_ok 2 rfl) (by decide) rfl ?_
  refine go_istore_n (q := 4) (gDec iX11_pointsOf_ok 3 rfl) rfl (by decide) rfl ?_
  refine go_sub (L' := [(0, .ref (κ.2.1 + 376)), (1, .int (nI g)), (2, .int 0), (3, .int (nI 0))]) ⟨rfl, rfl, rfl, rfl, trivial⟩ ?_
  refine lpX11_pointsOf hW hM hg (gNc τ g) 0 0 (by omega) ?_
  refine go_iload_n (q := 32) (gDec iX11_pointsOf_ok 21 rfl) rfl rfl rfl ?_
  exact go_ireturn (gDec iX11_pointsOf_ok 22 rfl) rfl rfl rfl rfl (by decide)

theorem nI_rem {a b : Nat} (ha : a < 2 ^ 31) (hb : b < 2 ^ 31) (h0 : 0 < b) : nI a - nI a / nI b * nI b = nI (a % b) := by
  apply Int32.toInt_inj.mp
  have h1 := Nat.mod_lt a h0
  have h2 := Nat.div_add_mod a b
  have h3 : a / b * b ≤ a := Nat.div_mul_le_self a b
  have h4 := Nat.div_le_self a b
  have hd : nI a / nI b = nI (a / b) := by
    apply Int32.toInt_inj.mp
    rw [Int32.toInt_div, nI_toInt ha, nI_toInt hb, nI_toInt (by omega)]
    rw [show ((a : Int).tdiv (b : Int)) = ((a / b : Nat) : Int) from rfl]
    generalize a / b = q at *
    exact Int.bmod_eq_of_le_mul_two (by omega) (by omega)
  rw [hd, nI_mul, Int32.toInt_sub, nI_toInt ha, nI_toInt (by omega), nI_toInt (by omega)]
  have h5 : (a : Int) - ((a / b * b : Nat) : Int) = ((a % b : Nat) : Int) := by
    rw [Nat.mul_comm] at h3 ⊢
    omega
  rw [h5]
  generalize a % b = r at *
  exact Int.bmod_eq_of_le_mul_two (by omega) (by omega)
theorem gNx_mod {P p : Nat} (h : p < P) : (p + 1) % P = gNx P p := by
  unfold gNx
  split
  · rename_i h1; exact Nat.mod_eq_of_lt h1
  · rename_i h1
    have : p + 1 = P := by omega
    rw [this, Nat.mod_self]

set_option maxHeartbeats 4000000 in
set_option maxRecDepth 100000 in
theorem lpX11_areaOf {κ : gK} {Z : gZ} {σ : gST} {τ : gST}  {g c : Nat} (hW : gDW τ) (hM : gMR τ (σ.1 377)) (hg : g < gNg τ) (hc : c < gNc τ g) : ∀ (m i : Nat) (a : Int32), i + m = (gNp τ g c) → Go κ mX11_areaOf (gRm 3 0) Z 89 [(0, .ref (κ.2.1 + 376)), (1, .int (nI g)), (2, .int (nI c)), (3, .int (nI (gNp τ g c))), (4, .int (gLoop (fun p a => a + (τ.1 10 ((g * 3 + c) * 12 + p) * τ.1 12 ((g * 3 + c) * 12 + gNx (gNp τ g c) p) - τ.1 10 ((g * 3 + c) * 12 + gNx (gNp τ g c) p) * τ.1 12 ((g * 3 + c) * 12 + p))) i m a)), (5, .int (nI (gNp τ g c)))] [] σ 0 → Go κ mX11_areaOf (gRm 3 0) Z 15 [(0, .ref (κ.2.1 + 376)), (1, .int (nI g)), (2, .int (nI c)), (3, .int (nI (gNp τ g c))), (4, .int a), (5, .int (nI i))] [] σ 0 := by
  have h24 := hW.ng24
  have h3 := hW.nc3 (g := g) (by omega)
  have h12 := hW.np12 (g := g) (c := c) (by omega) (by omega)
  intro m
  induction m with
  | zero =>
    intro i a hi h
    have hiN : (gNp τ g c) = i := by omega
    subst hiN
    refine go_iload (q := 17) (gDec iX11_areaOf_ok 11 rfl) rfl rfl ?_
    refine go_iload_n (q := 18) (gDec iX11_areaOf_ok 12 rfl) rfl rfl rfl ?_
    refine go_icmp_ge (t := 89) (q := 21) (gDec iX11_areaOf_ok 13 rfl) (by decide) rfl (fun c18 => ?_) (fun c18 => False.elim (c18 (Int32.le_refl _)))
    refine go_sub (L' := [(0, .ref (κ.2.1 + 376)), (1, .int (nI g)), (2, .int (nI c)), (3, .int (nI (gNp τ g c))), (4, .int a), (5, .int (nI (gNp τ g c)))]) ⟨rfl, rfl, rfl, rfl, rfl, rfl, trivial⟩ ?_
    exact h
  | succ m ih =>
    intro i a hi h
    have hnx : gNx (gNp τ g c) i < gNp τ g c := gNx_lt (by omega)
    refine go_iload (q := 17) (gDec iX11_areaOf_ok 11 rfl) rfl rfl ?_
    refine go_iload_n (q := 18) (gDec iX11_areaOf_ok 12 rfl) rfl rfl rfl ?_
    refine go_icmp_ge (t := 89) (q := 21) (gDec iX11_areaOf_ok 13 rfl) (by decide) rfl (fun c18 => False.elim (nI_ge (a := i) (b := (gNp τ g c)) (by omega) (by omega) c18)) (fun c18 => ?_)
    refine go_iload_n (q := 22) (gDec iX11_areaOf_ok 14 rfl) rfl rfl rfl ?_
    refine go_iload_n (q := 23) (gDec iX11_areaOf_ok 15 rfl) rfl rfl rfl ?_
    refine go_iload (q := 25) (gDec iX11_areaOf_ok 16 rfl) rfl rfl ?_
    refine go_callS (n2 := 0) (q := 28) kX11_95 (ctX11_pointAt (g := g) (c := c) (p := i)) (gDec iX11_areaOf_ok 17 rfl) rfl rfl (Nat.le_of_ble_eq_true rfl) rfl (gFit_rm (by decide) (by decide)) rfl ?_
    refine go_istore (q := 30) (gDec iX11_areaOf_ok 18 rfl) (by decide) rfl ?_
    refine go_iload_n (q := 31) (gDec iX11_areaOf_ok 19 rfl) rfl rfl rfl ?_
    refine go_iload_n (q := 32) (gDec iX11_areaOf_ok 20 rfl) rfl rfl rfl ?_
    refine go_iload (q := 34) (gDec iX11_areaOf_ok 21 rfl) rfl rfl ?_
    refine go_iconst (v := nI 1) (q := 35) (gDec iX11_areaOf_ok 22 rfl) (by decide) rfl ?_
    refine go_iaddN (c := i + 1) (q := 36) (gDec iX11_areaOf_ok 23 rfl) rfl rfl ?_
    refine go_iload_n (q := 37) (gDec iX11_areaOf_ok 24 rfl) rfl rfl rfl ?_
    refine go_irem (q := 38) (gDec iX11_areaOf_ok 25 rfl) (nI_ne0 (by omega) (by omega)) rfl ?_
    refine go_top (v' := nI (gNx (gNp τ g c) i)) ((nI_rem (by omega) (by omega) (by omega)).trans (by rw [gNx_mod (by omega)])) ?_
    refine go_callS (n2 := 0) (q := 41) kX11_95 (ctX11_pointAt (g := g) (c := c) (p := gNx (gNp τ g c) i)) (gDec iX11_areaOf_ok 26 rfl) rfl rfl (Nat.le_of_ble_eq_true rfl) rfl (gFit_rm (by decide) (by decide)) rfl ?_
    refine go_istore (q := 43) (gDec iX11_areaOf_ok 27 rfl) (by decide) rfl ?_
    refine go_iload (q := 45) (gDec iX11_areaOf_ok 28 rfl) rfl rfl ?_
    refine go_aload_n (q := 46) (gDec iX11_areaOf_ok 29 rfl) rfl rfl rfl ?_
    refine go_getr (r' := 377) (q := 49) fX11_9 (gDec iX11_areaOf_ok 30 rfl) rfl (by decide) rfl ?_
    refine go_iload (q := 51) (gDec iX11_areaOf_ok 31 rfl) rfl rfl ?_
    refine go_ialdN (q := 52) (gDec iX11_areaOf_ok 32 rfl) rfl (by decide) (by omega) (by decide) rfl ?_
    refine go_top (v' := τ.1 10 ((g * 3 + c) * 12 + i)) (hM.px hg hc (by omega) rfl) ?_
    refine go_aload_n (q := 53) (gDec iX11_areaOf_ok 33 rfl) rfl rfl rfl ?_
    refine go_getr (r' := 377) (q := 56) fX11_9 (gDec iX11_areaOf_ok 34 rfl) rfl (by decide) rfl ?_
    refine go_iload (q := 58) (gDec iX11_areaOf_ok 35 rfl) rfl rfl ?_
    refine go_iconst (v := nI 1) (q := 59) (gDec iX11_areaOf_ok 36 rfl) (by decide) rfl ?_
    refine go_iaddN (c := 196 + 96 * g + (5 + 2 * (12 * c + (gNx (gNp τ g c) i))) + 1) (q := 60) (gDec iX11_areaOf_ok 37 rfl) rfl rfl ?_
    refine go_ialdN (q := 61) (gDec iX11_areaOf_ok 38 rfl) rfl (by decide) (by omega) (by decide) rfl ?_
    refine go_top (v' := τ.1 12 ((g * 3 + c) * 12 + gNx (gNp τ g c) i)) (hM.py hg hc (gNx_lt (by omega)) rfl) ?_
    refine go_imul (q := 62) (gDec iX11_areaOf_ok 39 rfl) rfl ?_
    refine go_aload_n (q := 63) (gDec iX11_areaOf_ok 40 rfl) rfl rfl rfl ?_
    refine go_getr (r' := 377) (q := 66) fX11_9 (gDec iX11_areaOf_ok 41 rfl) rfl (by decide) rfl ?_
    refine go_iload (q := 68) (gDec iX11_areaOf_ok 42 rfl) rfl rfl ?_
    refine go_ialdN (q := 69) (gDec iX11_areaOf_ok 43 rfl) rfl (by decide) (by omega) (by decide) rfl ?_
    refine go_top (v' := τ.1 10 ((g * 3 + c) * 12 + gNx (gNp τ g c) i)) (hM.px hg hc (gNx_lt (by omega)) rfl) ?_
    refine go_aload_n (q := 70) (gDec iX11_areaOf_ok 44 rfl) rfl rfl rfl ?_
    refine go_getr (r' := 377) (q := 73) fX11_9 (gDec iX11_areaOf_ok 45 rfl) rfl (by decide) rfl ?_
    refine go_iload (q := 75) (gDec iX11_areaOf_ok 46 rfl) rfl rfl ?_
    refine go_iconst (v := nI 1) (q := 76) (gDec iX11_areaOf_ok 47 rfl) (by decide) rfl ?_
    refine go_iaddN (c := 196 + 96 * g + (5 + 2 * (12 * c + i)) + 1) (q := 77) (gDec iX11_areaOf_ok 48 rfl) rfl rfl ?_
    refine go_ialdN (q := 78) (gDec iX11_areaOf_ok 49 rfl) rfl (by decide) (by omega) (by decide) rfl ?_
    refine go_top (v' := τ.1 12 ((g * 3 + c) * 12 + i)) (hM.py hg hc (by omega) rfl) ?_
    refine go_imul (q := 79) (gDec iX11_areaOf_ok 50 rfl) rfl ?_
    refine go_isub (q := 80) (gDec iX11_areaOf_ok 51 rfl) rfl ?_
    refine go_iadd (q := 81) (gDec iX11_areaOf_ok 52 rfl) rfl ?_
    refine go_istore (q := 83) (gDec iX11_areaOf_ok 53 rfl) (by decide) rfl ?_
    refine go_iinc (v := nI (i + 1)) (q := 86) (gDec iX11_areaOf_ok 54 rfl) rfl (nI_1 _) (by decide) rfl ?_
    refine go_goto (t := 15) (gDec iX11_areaOf_ok 55 rfl) (by decide) ?_
    refine go_sub (L' := [(0, .ref (κ.2.1 + 376)), (1, .int (nI g)), (2, .int (nI c)), (3, .int (nI (gNp τ g c))), (4, .int ((fun p a => a + (τ.1 10 ((g * 3 + c) * 12 + p) * τ.1 12 ((g * 3 + c) * 12 + gNx (gNp τ g c) p) - τ.1 10 ((g * 3 + c) * 12 + gNx (gNp τ g c) p) * τ.1 12 ((g * 3 + c) * 12 + p))) i a)), (5, .int (nI (i + 1)))]) ⟨rfl, rfl, rfl, rfl, rfl, rfl, trivial⟩ ?_
    exact ih (i + 1) ((fun p a => a + (τ.1 10 ((g * 3 + c) * 12 + p) * τ.1 12 ((g * 3 + c) * 12 + gNx (gNp τ g c) p) - τ.1 10 ((g * 3 + c) * 12 + gNx (gNp τ g c) p) * τ.1 12 ((g * 3 + c) * 12 + p))) i a) (by omega) h

set_option maxHeartbeats 4000000 in
set_option maxRecDepth 100000 in
theorem ctX11_areaOf {κ : gK} {σ : gST} {τ : gST}  {g c : Nat} (hW : gDW τ) (hM : gMR τ (σ.1 377)) (hg : g < gNg τ) (hc : c < gNc τ g) : gCt κ mX11_areaOf 3 [.ref (κ.2.1 + 376), .int (nI g), .int (nI c)] σ (.inl (some (.int (gAr (τ.1 10) (τ.1 12) ((g * 3 + c) * 12) (gNp τ g c))))) σ 0 := by
  have h24 := hW.ng24
  have h3 := hW.nc3 (g := g) (by omega)
  have h12 := hW.np12 (g := g) (c := c) (by omega) (by omega)
  refine ct_of (by decide +kernel) rfl (Nat.le_of_ble_eq_true rfl) rfl ?_
  refine go_aload_n (q := 1) (gDec iX11_areaOf_ok 0 rfl) rfl rfl rfl ?_
  refine go_iload_n (q := 2) (gDec iX11_areaOf_ok 1 rfl) rfl rfl rfl ?_
  refine go_iconst (v := nI 2) (q := 3) (gDec iX11_areaOf_ok 2 rfl) (by decide) rfl ?_
  refine go_iload_n (q := 4) (gDec iX11_areaOf_ok 3 rfl) rfl rfl rfl ?_
  refine go_iaddN (c := 2 + c) (q := 5) (gDec iX11_areaOf_ok 4 rfl) rfl rfl ?_
  refine go_callV (n2 := 0) (q := 8) kX11_69 (ctX11_of (g := g) (w := 2 + c) (by omega)) (gDec iX11_areaOf_ok 5 rfl) rfl rfl (by decide) rfl rfl rfl (Nat.le_of_ble_eq_true rfl) rfl (gFit_rm (by decide) (by decide)) rfl ?_
  refine go_top (v' := nI (gNp τ g c)) (hM.np hW hg hc rfl) ?_
  refine go_istore_n (q := 9) (gDec iX11_areaOf_ok 6 rfl) rfl (by decide) rfl ?_
  refine go_iconst (v := 0) (q := 10) (gDec iX11_areaOf_ok 7 rfl) (by decide) rfl ?_
  refine go_istore (q := 12) (gDec iX11_areaOf_ok 8 rfl) (by decide) rfl ?_
  refine go_iconst (v := nI 0) (q := 13) (gDec iX11_areaOf_ok 9 rfl) (by decide) rfl ?_
  refine go_istore (q := 15) (gDec iX11_areaOf_ok 10 rfl) (by decide) rfl ?_
  refine go_sub (L' := [(0, .ref (κ.2.1 + 376)), (1, .int (nI g)), (2, .int (nI c)), (3, .int (nI (gNp τ g c))), (4, .int 0), (5, .int (nI 0))]) ⟨rfl, rfl, rfl, rfl, rfl, rfl, trivial⟩ ?_
  refine lpX11_areaOf hW hM hg hc (gNp τ g c) 0 0 (by omega) ?_
  refine go_iload (q := 91) (gDec iX11_areaOf_ok 56 rfl) rfl rfl ?_
  exact go_ireturn (gDec iX11_areaOf_ok 57 rfl) rfl rfl rfl rfl (by decide)

set_option maxHeartbeats 4000000 in
set_option maxRecDepth 100000 in
theorem lpX11_areas {κ : gK} {Z : gZ} {σ : gST} {τ : gST}  {g : Nat} (hW : gDW τ) (hM : gMR τ (σ.1 377)) (hg : g < gNg τ) : ∀ (m i : Nat) (a : Int32), i + m = (gNc τ g) → Go κ mX11_areas (gRm 4 0) Z 29 [(0, .ref (κ.2.1 + 376)), (1, .int (nI g)), (2, .int (gLoop (fun c a => a + gAr (τ.1 10) (τ.1 12) ((g * 3 + c) * 12) (gNp τ g c)) i m a)), (3, .int (nI (gNc τ g)))] [] σ 0 → Go κ mX11_areas (gRm 4 0) Z 4 [(0, .ref (κ.2.1 + 376)), (1, .int (nI g)), (2, .int a), (3, .int (nI i))] [] σ 0 := by
  have h24 := hW.ng24
  have h3 := hW.nc3 (g := g) (by omega)
  intro m
  induction m with
  | zero =>
    intro i a hi h
    have hiN : (gNc τ g) = i := by omega
    rw [hiN] at h
    refine go_iload_n (q := 5) (gDec iX11_areas_ok 4 rfl) rfl rfl rfl ?_
    refine go_aload_n (q := 6) (gDec iX11_areas_ok 5 rfl) rfl rfl rfl ?_
    refine go_iload_n (q := 7) (gDec iX11_areas_ok 6 rfl) rfl rfl rfl ?_
    refine go_iconst (v := nI 1) (q := 8) (gDec iX11_areas_ok 7 rfl) (by decide) rfl ?_
    refine go_callV (n2 := 0) (q := 11) kX11_69 (ctX11_of (g := g) (w := 1) (by omega)) (gDec iX11_areas_ok 8 rfl) rfl rfl (by decide) rfl rfl rfl (Nat.le_of_ble_eq_true rfl) rfl (gFit_rm (by decide) (by decide)) rfl ?_
    refine go_top (v' := nI (gNc τ g)) (hM.nc hW hg rfl) ?_
    refine go_icmp_ge (t := 29) (q := 14) (gDec iX11_areas_ok 9 rfl) (by decide) rfl (fun c11 => ?_) (fun c11 => False.elim (c11 (nI_le (a := (gNc τ g)) (b := i) (by omega) (by omega))))
    refine go_sub (L' := [(0, .ref (κ.2.1 + 376)), (1, .int (nI g)), (2, .int a), (3, .int (nI i))]) ⟨rfl, rfl, rfl, rfl, trivial⟩ ?_
    exact h
  | succ m ih =>
    intro i a hi h
    refine go_iload_n (q := 5) (gDec iX11_areas_ok 4 rfl) rfl rfl rfl ?_
    refine go_aload_n (q := 6) (gDec iX11_areas_ok 5 rfl) rfl rfl rfl ?_
    refine go_iload_n (q := 7) (gDec iX11_areas_ok 6 rfl) rfl rfl rfl ?_
    refine go_iconst (v := nI 1) (q := 8) (gDec iX11_areas_ok 7 rfl) (by decide) rfl ?_
    refine go_callV (n2 := 0) (q := 11) kX11_69 (ctX11_of (g := g) (w := 1) (by omega)) (gDec iX11_areas_ok 8 rfl) rfl rfl (by decide) rfl rfl rfl (Nat.le_of_ble_eq_true rfl) rfl (gFit_rm (by decide) (by decide)) rfl ?_
    refine go_top (v' := nI (gNc τ g)) (hM.nc hW hg rfl) ?_
    refine go_icmp_ge (t := 29) (q := 14) (gDec iX11_areas_ok 9 rfl) (by decide) rfl (fun c11 => False.elim (nI_ge (a := i) (b := (gNc τ g)) (by omega) (by omega) c11)) (fun c11 => ?_)
    refine go_iload_n (q := 15) (gDec iX11_areas_ok 10 rfl) rfl rfl rfl ?_
    refine go_aload_n (q := 16) (gDec iX11_areas_ok 11 rfl) rfl rfl rfl ?_
    refine go_iload_n (q := 17) (gDec iX11_areas_ok 12 rfl) rfl rfl rfl ?_
    refine go_iload_n (q := 18) (gDec iX11_areas_ok 13 rfl) rfl rfl rfl ?_
    refine go_callV (n2 := 0) (q := 21) kX11_123 (ctX11_areaOf (τ := τ) hW hM (by omega) (by omega)) (gDec iX11_areas_ok 14 rfl) rfl rfl (by decide) rfl rfl rfl (Nat.le_of_ble_eq_true rfl) rfl (gFit_rm (by decide) (by decide)) rfl ?_
    refine go_iadd (q := 22) (gDec iX11_areas_ok 15 rfl) rfl ?_
    refine go_istore_n (q := 23) (gDec iX11_areas_ok 16 rfl) rfl (by decide) rfl ?_
    refine go_iinc (v := nI (i + 1)) (q := 26) (gDec iX11_areas_ok 17 rfl) rfl (nI_1 _) (by decide) rfl ?_
    refine go_goto (t := 4) (gDec iX11_areas_ok 18 rfl) (by decide) ?_
    refine go_sub (L' := [(0, .ref (κ.2.1 + 376)), (1, .int (nI g)), (2, .int ((fun c a => a + gAr (τ.1 10) (τ.1 12) ((g * 3 + c) * 12) (gNp τ g c)) i a)), (3, .int (nI (i + 1)))]) ⟨rfl, rfl, rfl, rfl, trivial⟩ ?_
    exact ih (i + 1) ((fun c a => a + gAr (τ.1 10) (τ.1 12) ((g * 3 + c) * 12) (gNp τ g c)) i a) (by omega) h

set_option maxHeartbeats 4000000 in
set_option maxRecDepth 100000 in
theorem ctX11_areas {κ : gK} {σ : gST} {τ : gST}  {g : Nat} (hW : gDW τ) (hM : gMR τ (σ.1 377)) (hg : g < gNg τ) : gCt κ mX11_areas 4 [.ref (κ.2.1 + 376), .int (nI g)] σ (.inl (some (.int (gLoop (fun c a => a + gAr (τ.1 10) (τ.1 12) ((g * 3 + c) * 12) (gNp τ g c)) 0 (gNc τ g) 0)))) σ 0 := by
  refine ct_of (by decide +kernel) rfl (Nat.le_of_ble_eq_true rfl) rfl ?_
  refine go_iconst (v := 0) (q := 1) (gDec iX11_areas_ok 0 rfl) (by decide) rfl ?_
  refine go_istore_n (q := 2) (gDec iX11_areas_ok 1 rfl) rfl (by decide) rfl ?_
  refine go_iconst (v := nI 0) (q := 3) (gDec iX11_areas_ok 2 rfl) (by decide) rfl ?_
  refine go_istore_n (q := 4) (gDec iX11_areas_ok 3 rfl) rfl (by decide) rfl ?_
  refine go_sub (L' := [(0, .ref (κ.2.1 + 376)), (1, .int (nI g)), (2, .int 0), (3, .int (nI 0))]) ⟨rfl, rfl, rfl, rfl, trivial⟩ ?_
  refine lpX11_areas hW hM hg (gNc τ g) 0 0 (by omega) ?_
  refine go_iload_n (q := 30) (gDec iX11_areas_ok 19 rfl) rfl rfl rfl ?_
  exact go_ireturn (gDec iX11_areas_ok 20 rfl) rfl rfl rfl rfl (by decide)

/-- the greatest or least so far, none before the first -/
def gEd1 (b : Bool) (a : Option Int32) (v : Int32) : Option Int32 := some (match a with
  | none => v
  | some x => gMxx b x v)
def gEdC (b : Bool) (τ : gST) (g c : Nat) (a : Option Int32) : Option Int32 := gLoop (fun p a => gEd1 b a (τ.1 10 ((g * 3 + c) * 12 + p))) 0 (gNp τ g c) a
def gEd (b : Bool) (τ : gST) (g : Nat) : Int32 := (gLoop (gEdC b τ g) 0 (gNc τ g) none).getD 0
abbrev oF (a : Option Int32) : Int32 := match a with
  | none => 1
  | some _ => 0
theorem gEd_in {b : Bool} {f : Nat → Int32} : ∀ (m i : Nat) (x : Int32), gLoop (fun p a => gEd1 b a (f p)) i m (some x) = some (gLoop (fun p a => gMxx b a (f p)) i m x)
  | 0, _, _ => rfl
  | m + 1, i, x => gEd_in m (i + 1) (gMxx b x (f i))
theorem gMxx_self (b : Bool) (x : Int32) : gMxx b x x = x := by cases b <;> simp [gMxx]
theorem gEd_out {b : Bool} {τ : gST} {g : Nat} : ∀ (m i : Nat) (x : Int32), gLoop (gEdC b τ g) i m (some x) = some (gLoop (fun c a => gLoop (fun p a => gMxx b a (τ.1 10 ((g * 3 + c) * 12 + p))) 0 (gNp τ g c) a) i m x)
  | 0, _, _ => rfl
  | m + 1, i, x => by
    show gLoop (gEdC b τ g) (i + 1) m (gEdC b τ g i (some x)) = _
    rw [gEdC, gEd_in, gEd_out m (i + 1)]
    rfl
theorem gEd_eq {b : Bool} {τ : gST} {g : Nat} (h : 0 < gNc τ g → 0 < gNp τ g 0) : gEd b τ g = gEx b (τ.1 10) (gNp τ g) g (gNc τ g) := by
  unfold gEd gEx
  cases hn : gNc τ g with
  | zero => rfl
  | succ m =>
    have h1 := h (by omega)
    rw [if_neg (by omega)]
    obtain ⟨k, hk⟩ : ∃ k, gNp τ g 0 = k + 1 := ⟨gNp τ g 0 - 1, by omega⟩
    show (gLoop (gEdC b τ g) 1 m (gEdC b τ g 0 none)).getD 0 = gLoop _ 1 m (gLoop _ 0 (gNp τ g 0) _)
    have h2 : gEdC b τ g 0 none = some (gLoop (fun p a => gMxx b a (τ.1 10 ((g * 3 + 0) * 12 + p))) 0 (gNp τ g 0) (τ.1 10 ((g * 3 + 0) * 12 + 0))) := by
      unfold gEdC
      rw [hk]
      show gLoop _ 1 k (some (τ.1 10 ((g * 3 + 0) * 12 + 0))) = some (gLoop _ 1 k (gMxx b (τ.1 10 ((g * 3 + 0) * 12 + 0)) (τ.1 10 ((g * 3 + 0) * 12 + 0))))
      rw [gMxx_self]
      exact gEd_in (b := b) (f := fun p => τ.1 10 ((g * 3 + 0) * 12 + p)) k 1 _
    rw [h2, gEd_out]
    rfl

set_option maxHeartbeats 4000000 in
set_option maxRecDepth 100000 in
theorem lpX11_edge2g {κ : gK} {Z : gZ} {σ τ : gST}  {g c : Nat} (hW : gDW τ) (hM : gMR τ (σ.1 377)) (hg : g < gNg τ) (hc : c < gNc τ g) : ∀ (m i : Nat) (a : Option Int32), i + m = gNp τ g c → Go κ mX11_edge (gRm 2 0) Z 90 [(0, .ref (κ.2.1 + 376)), (1, .int (nI g)), (2, .int 0), (3, .int ((gLoop (fun p a => gEd1 true a (τ.1 10 ((g * 3 + c) * 12 + p))) i m a).getD 0)), (4, .int (oF (gLoop (fun p a => gEd1 true a (τ.1 10 ((g * 3 + c) * 12 + p))) i m a))), (5, .int (nI c)), (6, .int (nI (gNp τ g c)))] [] σ 0 → Go κ mX11_edge (gRm 2 0) Z 22 [(0, .ref (κ.2.1 + 376)), (1, .int (nI g)), (2, .int 0), (3, .int (a.getD 0)), (4, .int (oF a)), (5, .int (nI c)), (6, .int (nI i))] [] σ 0 := by
  have h24 := hW.ng24
  have h3 := hW.nc3 (g := g) (by omega)
  have h12 := hW.np12 (g := g) (c := c) (by omega) (by omega)
  intro m
  induction m with
  | zero =>
    intro i a hi h
    have hiN : gNp τ g c = i := by omega
    rw [hiN] at h
    refine go_iload (q := 24) (gDec iX11_edge_ok 14 rfl) rfl rfl ?_
    refine go_aload_n (q := 25) (gDec iX11_edge_ok 15 rfl) rfl rfl rfl ?_
    refine go_iload_n (q := 26) (gDec iX11_edge_ok 16 rfl) rfl rfl rfl ?_
    refine go_iconst (v := nI 2) (q := 27) (gDec iX11_edge_ok 17 rfl) (by decide) rfl ?_
    refine go_iload (q := 29) (gDec iX11_edge_ok 18 rfl) rfl rfl ?_
    refine go_iaddN (c := 2 + c) (q := 30) (gDec iX11_edge_ok 19 rfl) rfl rfl ?_
    refine go_callV (n2 := 0) (q := 33) kX11_69 (ctX11_of (g := g) (w := 2 + c) (by omega)) (gDec iX11_edge_ok 20 rfl) rfl rfl (by decide) rfl rfl rfl (Nat.le_of_ble_eq_true rfl) rfl (gFit_rm (by decide) (by decide)) rfl ?_
    refine go_top (v' := nI (gNp τ g c)) (hM.np hW hg hc rfl) ?_
    refine go_icmp_ge (t := 90) (q := 36) (gDec iX11_edge_ok 21 rfl) (by decide) rfl (fun c33 => ?_) (fun c33 => False.elim (c33 (nI_le (by omega) (by omega))))
    exact h
  | succ m ih =>
    intro i a hi h
    cases a with
    | none =>
      refine go_iload (q := 24) (gDec iX11_edge_ok 14 rfl) rfl rfl ?_
      refine go_aload_n (q := 25) (gDec iX11_edge_ok 15 rfl) rfl rfl rfl ?_
      refine go_iload_n (q := 26) (gDec iX11_edge_ok 16 rfl) rfl rfl rfl ?_
      refine go_iconst (v := nI 2) (q := 27) (gDec iX11_edge_ok 17 rfl) (by decide) rfl ?_
      refine go_iload (q := 29) (gDec iX11_edge_ok 18 rfl) rfl rfl ?_
      refine go_iaddN (c := 2 + c) (q := 30) (gDec iX11_edge_ok 19 rfl) rfl rfl ?_
      refine go_callV (n2 := 0) (q := 33) kX11_69 (ctX11_of (g := g) (w := 2 + c) (by omega)) (gDec iX11_edge_ok 20 rfl) rfl rfl (by decide) rfl rfl rfl (Nat.le_of_ble_eq_true rfl) rfl (gFit_rm (by decide) (by decide)) rfl ?_
      refine go_top (v' := nI (gNp τ g c)) (hM.np hW hg hc rfl) ?_
      refine go_icmp_ge (t := 90) (q := 36) (gDec iX11_edge_ok 21 rfl) (by decide) rfl (fun c33 => False.elim (nI_ge (a := i) (b := gNp τ g c) (by omega) (by omega) c33)) (fun c33 => ?_)
      refine go_aload_n (q := 37) (gDec iX11_edge_ok 22 rfl) rfl rfl rfl ?_
      refine go_getr (r' := 377) (q := 40) fX11_9 (gDec iX11_edge_ok 23 rfl) rfl (by decide) rfl ?_
      refine go_iload_n (q := 41) (gDec iX11_edge_ok 24 rfl) rfl rfl rfl ?_
      refine go_iload (q := 43) (gDec iX11_edge_ok 25 rfl) rfl rfl ?_
      refine go_iload (q := 45) (gDec iX11_edge_ok 26 rfl) rfl rfl ?_
      refine go_callS (n2 := 0) (q := 48) kX11_95 (ctX11_pointAt (g := g) (c := c) (p := i)) (gDec iX11_edge_ok 27 rfl) rfl rfl (Nat.le_of_ble_eq_true rfl) rfl (gFit_rm (by decide) (by decide)) rfl ?_
      refine go_ialdN (q := 49) (gDec iX11_edge_ok 28 rfl) rfl (by decide) (by omega) (by decide) rfl ?_
      refine go_top (v' := τ.1 10 ((g * 3 + c) * 12 + i)) (hM.px hg hc (by omega) rfl) ?_
      refine go_istore (q := 51) (gDec iX11_edge_ok 29 rfl) (by decide) rfl ?_
      refine go_iload (q := 53) (gDec iX11_edge_ok 30 rfl) rfl rfl ?_
      refine go_if_eq (t := 61) (q := 56) (gDec iX11_edge_ok 31 rfl) (by decide) rfl (fun c53 => False.elim (absurd c53 (by decide))) (fun c53 => ?_)
      refine go_iload (q := 58) (gDec iX11_edge_ok 32 rfl) rfl rfl ?_
      refine go_goto (t := 80) (gDec iX11_edge_ok 33 rfl) (by decide) ?_
      refine go_istore_n (q := 81) (gDec iX11_edge_ok 43 rfl) rfl (by decide) rfl ?_
      refine go_iconst (v := 0) (q := 82) (gDec iX11_edge_ok 44 rfl) (by decide) rfl ?_
      refine go_istore (q := 84) (gDec iX11_edge_ok 45 rfl) (by decide) rfl ?_
      refine go_iinc (v := nI (i + 1)) (q := 87) (gDec iX11_edge_ok 46 rfl) rfl (nI_1 _) (by decide) rfl ?_
      refine go_goto (t := 22) (gDec iX11_edge_ok 47 rfl) (by decide) ?_
      refine go_sub (L' := [(0, .ref (κ.2.1 + 376)), (1, .int (nI g)), (2, .int 0), (3, .int (((fun p a => gEd1 true a (τ.1 10 ((g * 3 + c) * 12 + p))) i none).getD 0)), (4, .int (oF ((fun p a => gEd1 true a (τ.1 10 ((g * 3 + c) * 12 + p))) i none))), (5, .int (nI c)), (6, .int (nI (i + 1)))]) ⟨rfl, rfl, rfl, rfl, rfl, rfl, rfl, trivial⟩ ?_
      exact ih (i + 1) ((fun p a => gEd1 true a (τ.1 10 ((g * 3 + c) * 12 + p))) i none) (by omega) h
    | some x =>
      refine go_iload (q := 24) (gDec iX11_edge_ok 14 rfl) rfl rfl ?_
      refine go_aload_n (q := 25) (gDec iX11_edge_ok 15 rfl) rfl rfl rfl ?_
      refine go_iload_n (q := 26) (gDec iX11_edge_ok 16 rfl) rfl rfl rfl ?_
      refine go_iconst (v := nI 2) (q := 27) (gDec iX11_edge_ok 17 rfl) (by decide) rfl ?_
      refine go_iload (q := 29) (gDec iX11_edge_ok 18 rfl) rfl rfl ?_
      refine go_iaddN (c := 2 + c) (q := 30) (gDec iX11_edge_ok 19 rfl) rfl rfl ?_
      refine go_callV (n2 := 0) (q := 33) kX11_69 (ctX11_of (g := g) (w := 2 + c) (by omega)) (gDec iX11_edge_ok 20 rfl) rfl rfl (by decide) rfl rfl rfl (Nat.le_of_ble_eq_true rfl) rfl (gFit_rm (by decide) (by decide)) rfl ?_
      refine go_top (v' := nI (gNp τ g c)) (hM.np hW hg hc rfl) ?_
      refine go_icmp_ge (t := 90) (q := 36) (gDec iX11_edge_ok 21 rfl) (by decide) rfl (fun c33 => False.elim (nI_ge (a := i) (b := gNp τ g c) (by omega) (by omega) c33)) (fun c33 => ?_)
      refine go_aload_n (q := 37) (gDec iX11_edge_ok 22 rfl) rfl rfl rfl ?_
      refine go_getr (r' := 377) (q := 40) fX11_9 (gDec iX11_edge_ok 23 rfl) rfl (by decide) rfl ?_
      refine go_iload_n (q := 41) (gDec iX11_edge_ok 24 rfl) rfl rfl rfl ?_
      refine go_iload (q := 43) (gDec iX11_edge_ok 25 rfl) rfl rfl ?_
      refine go_iload (q := 45) (gDec iX11_edge_ok 26 rfl) rfl rfl ?_
      refine go_callS (n2 := 0) (q := 48) kX11_95 (ctX11_pointAt (g := g) (c := c) (p := i)) (gDec iX11_edge_ok 27 rfl) rfl rfl (Nat.le_of_ble_eq_true rfl) rfl (gFit_rm (by decide) (by decide)) rfl ?_
      refine go_ialdN (q := 49) (gDec iX11_edge_ok 28 rfl) rfl (by decide) (by omega) (by decide) rfl ?_
      refine go_top (v' := τ.1 10 ((g * 3 + c) * 12 + i)) (hM.px hg hc (by omega) rfl) ?_
      refine go_istore (q := 51) (gDec iX11_edge_ok 29 rfl) (by decide) rfl ?_
      refine go_iload (q := 53) (gDec iX11_edge_ok 30 rfl) rfl rfl ?_
      refine go_if_eq (t := 61) (q := 56) (gDec iX11_edge_ok 31 rfl) (by decide) rfl (fun c53 => ?_) (fun c53 => False.elim (c53 rfl))
      refine go_iload_n (q := 62) (gDec iX11_edge_ok 34 rfl) rfl rfl rfl ?_
      refine go_if_eq (t := 74) (q := 65) (gDec iX11_edge_ok 35 rfl) (by decide) rfl (fun c62 => ?_) (fun c62 => False.elim (c62 rfl))
      refine go_iload_n (q := 75) (gDec iX11_edge_ok 40 rfl) rfl rfl rfl ?_
      refine go_iload (q := 77) (gDec iX11_edge_ok 41 rfl) rfl rfl ?_
      refine go_max (q := 80) kX11_116 (gDec iX11_edge_ok 42 rfl) (Nat.le_of_ble_eq_true rfl) (gFit_rm (by decide) (by decide)) rfl ?_
      refine go_istore_n (q := 81) (gDec iX11_edge_ok 43 rfl) rfl (by decide) rfl ?_
      refine go_iconst (v := 0) (q := 82) (gDec iX11_edge_ok 44 rfl) (by decide) rfl ?_
      refine go_istore (q := 84) (gDec iX11_edge_ok 45 rfl) (by decide) rfl ?_
      refine go_iinc (v := nI (i + 1)) (q := 87) (gDec iX11_edge_ok 46 rfl) rfl (nI_1 _) (by decide) rfl ?_
      refine go_goto (t := 22) (gDec iX11_edge_ok 47 rfl) (by decide) ?_
      refine go_sub (L' := [(0, .ref (κ.2.1 + 376)), (1, .int (nI g)), (2, .int 0), (3, .int (((fun p a => gEd1 true a (τ.1 10 ((g * 3 + c) * 12 + p))) i (some x)).getD 0)), (4, .int (oF ((fun p a => gEd1 true a (τ.1 10 ((g * 3 + c) * 12 + p))) i (some x)))), (5, .int (nI c)), (6, .int (nI (i + 1)))]) ⟨rfl, rfl, rfl, rfl, rfl, rfl, rfl, trivial⟩ ?_
      exact ih (i + 1) ((fun p a => gEd1 true a (τ.1 10 ((g * 3 + c) * 12 + p))) i (some x)) (by omega) h

set_option maxHeartbeats 4000000 in
set_option maxRecDepth 100000 in
theorem lpX11_edge1g {κ : gK} {Z : gZ} {σ : gST} {τ : gST}  {g : Nat} (hW : gDW τ) (hM : gMR τ (σ.1 377)) (hg : g < gNg τ) : ∀ (m i : Nat) (a : Option Int32), i + m = (gNc τ g) → Go κ mX11_edge (gRm 2 0) Z 96 [(0, .ref (κ.2.1 + 376)), (1, .int (nI g)), (2, .int 0), (3, .int ((gLoop (gEdC true τ g) i m a).getD 0)), (4, .int (oF (gLoop (gEdC true τ g) i m a))), (5, .int (nI (gNc τ g)))] [] σ 0 → Go κ mX11_edge (gRm 2 0) Z 8 [(0, .ref (κ.2.1 + 376)), (1, .int (nI g)), (2, .int 0), (3, .int (a.getD 0)), (4, .int (oF a)), (5, .int (nI i))] [] σ 0 := by
  have h24 := hW.ng24
  have h3 := hW.nc3 (g := g) (by omega)
  intro m
  induction m with
  | zero =>
    intro i a hi h
    have hiN : (gNc τ g) = i := by omega
    rw [hiN] at h
    refine go_iload (q := 10) (gDec iX11_edge_ok 6 rfl) rfl rfl ?_
    refine go_aload_n (q := 11) (gDec iX11_edge_ok 7 rfl) rfl rfl rfl ?_
    refine go_iload_n (q := 12) (gDec iX11_edge_ok 8 rfl) rfl rfl rfl ?_
    refine go_iconst (v := nI 1) (q := 13) (gDec iX11_edge_ok 9 rfl) (by decide) rfl ?_
    refine go_callV (n2 := 0) (q := 16) kX11_69 (ctX11_of (g := g) (w := 1) (by omega)) (gDec iX11_edge_ok 10 rfl) rfl rfl (by decide) rfl rfl rfl (Nat.le_of_ble_eq_true rfl) rfl (gFit_rm (by decide) (by decide)) rfl ?_
    refine go_top (v' := nI (gNc τ g)) (hM.nc hW hg rfl) ?_
    refine go_icmp_ge (t := 96) (q := 19) (gDec iX11_edge_ok 11 rfl) (by decide) rfl (fun c16 => ?_) (fun c16 => False.elim (c16 (nI_le (a := (gNc τ g)) (b := i) (by omega) (by omega))))
    refine go_sub (L' := [(0, .ref (κ.2.1 + 376)), (1, .int (nI g)), (2, .int 0), (3, .int (a.getD 0)), (4, .int (oF a)), (5, .int (nI i))]) ⟨rfl, rfl, rfl, rfl, rfl, rfl, trivial⟩ ?_
    exact h
  | succ m ih =>
    intro i a hi h
    refine go_iload (q := 10) (gDec iX11_edge_ok 6 rfl) rfl rfl ?_
    refine go_aload_n (q := 11) (gDec iX11_edge_ok 7 rfl) rfl rfl rfl ?_
    refine go_iload_n (q := 12) (gDec iX11_edge_ok 8 rfl) rfl rfl rfl ?_
    refine go_iconst (v := nI 1) (q := 13) (gDec iX11_edge_ok 9 rfl) (by decide) rfl ?_
    refine go_callV (n2 := 0) (q := 16) kX11_69 (ctX11_of (g := g) (w := 1) (by omega)) (gDec iX11_edge_ok 10 rfl) rfl rfl (by decide) rfl rfl rfl (Nat.le_of_ble_eq_true rfl) rfl (gFit_rm (by decide) (by decide)) rfl ?_
    refine go_top (v' := nI (gNc τ g)) (hM.nc hW hg rfl) ?_
    refine go_icmp_ge (t := 96) (q := 19) (gDec iX11_edge_ok 11 rfl) (by decide) rfl (fun c16 => False.elim (nI_ge (a := i) (b := (gNc τ g)) (by omega) (by omega) c16)) (fun c16 => ?_)
    refine go_iconst (v := nI 0) (q := 20) (gDec iX11_edge_ok 12 rfl) (by decide) rfl ?_
    refine go_istore (q := 22) (gDec iX11_edge_ok 13 rfl) (by decide) rfl ?_
    refine go_sub (L' := [(0, .ref (κ.2.1 + 376)), (1, .int (nI g)), (2, .int 0), (3, .int (a.getD 0)), (4, .int (oF a)), (5, .int (nI i)), (6, .int (nI 0))]) ⟨rfl, rfl, rfl, rfl, rfl, rfl, rfl, trivial⟩ ?_
    refine lpX11_edge2g hW hM hg (by omega) (gNp τ g i) 0 a (by omega) ?_
    refine go_iinc (v := nI (i + 1)) (q := 93) (gDec iX11_edge_ok 48 rfl) rfl (nI_1 _) (by decide) rfl ?_
    refine go_goto (t := 8) (gDec iX11_edge_ok 49 rfl) (by decide) ?_
    refine go_sub (L' := [(0, .ref (κ.2.1 + 376)), (1, .int (nI g)), (2, .int 0), (3, .int (((gEdC true τ g) i a).getD 0)), (4, .int (oF ((gEdC true τ g) i a))), (5, .int (nI (i + 1)))]) ⟨rfl, rfl, rfl, rfl, rfl, rfl, trivial⟩ ?_
    exact ih (i + 1) ((gEdC true τ g) i a) (by omega) h

set_option maxHeartbeats 4000000 in
set_option maxRecDepth 100000 in
theorem ctX11_edgeg {κ : gK} {σ : gST} {τ : gST}  {g : Nat} (hW : gDW τ) (hM : gMR τ (σ.1 377)) (hg : g < gNg τ) : gCt κ mX11_edge 2 [.ref (κ.2.1 + 376), .int (nI g), .int 0] σ (.inl (some (.int (gEd true τ g)))) σ 0 := by
  refine ct_of (by decide +kernel) rfl (Nat.le_of_ble_eq_true rfl) rfl ?_
  refine go_iconst (v := 0) (q := 1) (gDec iX11_edge_ok 0 rfl) (by decide) rfl ?_
  refine go_istore_n (q := 2) (gDec iX11_edge_ok 1 rfl) rfl (by decide) rfl ?_
  refine go_iconst (v := 1) (q := 3) (gDec iX11_edge_ok 2 rfl) (by decide) rfl ?_
  refine go_istore (q := 5) (gDec iX11_edge_ok 3 rfl) (by decide) rfl ?_
  refine go_iconst (v := nI 0) (q := 6) (gDec iX11_edge_ok 4 rfl) (by decide) rfl ?_
  refine go_istore (q := 8) (gDec iX11_edge_ok 5 rfl) (by decide) rfl ?_
  refine go_sub (L' := [(0, .ref (κ.2.1 + 376)), (1, .int (nI g)), (2, .int 0), (3, .int ((none : Option Int32).getD 0)), (4, .int (oF (none : Option Int32))), (5, .int (nI 0))]) ⟨rfl, rfl, rfl, rfl, rfl, rfl, trivial⟩ ?_
  refine lpX11_edge1g hW hM hg (gNc τ g) 0 none (by omega) ?_
  refine go_iload_n (q := 97) (gDec iX11_edge_ok 50 rfl) rfl rfl rfl ?_
  exact go_ireturn (gDec iX11_edge_ok 51 rfl) rfl rfl rfl rfl (by decide)

set_option maxHeartbeats 4000000 in
set_option maxRecDepth 100000 in
theorem lpX11_edge2l {κ : gK} {Z : gZ} {σ τ : gST}  {g c : Nat} (hW : gDW τ) (hM : gMR τ (σ.1 377)) (hg : g < gNg τ) (hc : c < gNc τ g) : ∀ (m i : Nat) (a : Option Int32), i + m = gNp τ g c → Go κ mX11_edge (gRm 2 0) Z 90 [(0, .ref (κ.2.1 + 376)), (1, .int (nI g)), (2, .int 1), (3, .int ((gLoop (fun p a => gEd1 false a (τ.1 10 ((g * 3 + c) * 12 + p))) i m a).getD 0)), (4, .int (oF (gLoop (fun p a => gEd1 false a (τ.1 10 ((g * 3 + c) * 12 + p))) i m a))), (5, .int (nI c)), (6, .int (nI (gNp τ g c)))] [] σ 0 → Go κ mX11_edge (gRm 2 0) Z 22 [(0, .ref (κ.2.1 + 376)), (1, .int (nI g)), (2, .int 1), (3, .int (a.getD 0)), (4, .int (oF a)), (5, .int (nI c)), (6, .int (nI i))] [] σ 0 := by
  have h24 := hW.ng24
  have h3 := hW.nc3 (g := g) (by omega)
  have h12 := hW.np12 (g := g) (c := c) (by omega) (by omega)
  intro m
  induction m with
  | zero =>
    intro i a hi h
    have hiN : gNp τ g c = i := by omega
    rw [hiN] at h
    refine go_iload (q := 24) (gDec iX11_edge_ok 14 rfl) rfl rfl ?_
    refine go_aload_n (q := 25) (gDec iX11_edge_ok 15 rfl) rfl rfl rfl ?_
    refine go_iload_n (q := 26) (gDec iX11_edge_ok 16 rfl) rfl rfl rfl ?_
    refine go_iconst (v := nI 2) (q := 27) (gDec iX11_edge_ok 17 rfl) (by decide) rfl ?_
    refine go_iload (q := 29) (gDec iX11_edge_ok 18 rfl) rfl rfl ?_
    refine go_iaddN (c := 2 + c) (q := 30) (gDec iX11_edge_ok 19 rfl) rfl rfl ?_
    refine go_callV (n2 := 0) (q := 33) kX11_69 (ctX11_of (g := g) (w := 2 + c) (by omega)) (gDec iX11_edge_ok 20 rfl) rfl rfl (by decide) rfl rfl rfl (Nat.le_of_ble_eq_true rfl) rfl (gFit_rm (by decide) (by decide)) rfl ?_
    refine go_top (v' := nI (gNp τ g c)) (hM.np hW hg hc rfl) ?_
    refine go_icmp_ge (t := 90) (q := 36) (gDec iX11_edge_ok 21 rfl) (by decide) rfl (fun c33 => ?_) (fun c33 => False.elim (c33 (nI_le (by omega) (by omega))))
    exact h
  | succ m ih =>
    intro i a hi h
    cases a with
    | none =>
      refine go_iload (q := 24) (gDec iX11_edge_ok 14 rfl) rfl rfl ?_
      refine go_aload_n (q := 25) (gDec iX11_edge_ok 15 rfl) rfl rfl rfl ?_
      refine go_iload_n (q := 26) (gDec iX11_edge_ok 16 rfl) rfl rfl rfl ?_
      refine go_iconst (v := nI 2) (q := 27) (gDec iX11_edge_ok 17 rfl) (by decide) rfl ?_
      refine go_iload (q := 29) (gDec iX11_edge_ok 18 rfl) rfl rfl ?_
      refine go_iaddN (c := 2 + c) (q := 30) (gDec iX11_edge_ok 19 rfl) rfl rfl ?_
      refine go_callV (n2 := 0) (q := 33) kX11_69 (ctX11_of (g := g) (w := 2 + c) (by omega)) (gDec iX11_edge_ok 20 rfl) rfl rfl (by decide) rfl rfl rfl (Nat.le_of_ble_eq_true rfl) rfl (gFit_rm (by decide) (by decide)) rfl ?_
      refine go_top (v' := nI (gNp τ g c)) (hM.np hW hg hc rfl) ?_
      refine go_icmp_ge (t := 90) (q := 36) (gDec iX11_edge_ok 21 rfl) (by decide) rfl (fun c33 => False.elim (nI_ge (a := i) (b := gNp τ g c) (by omega) (by omega) c33)) (fun c33 => ?_)
      refine go_aload_n (q := 37) (gDec iX11_edge_ok 22 rfl) rfl rfl rfl ?_
      refine go_getr (r' := 377) (q := 40) fX11_9 (gDec iX11_edge_ok 23 rfl) rfl (by decide) rfl ?_
      refine go_iload_n (q := 41) (gDec iX11_edge_ok 24 rfl) rfl rfl rfl ?_
      refine go_iload (q := 43) (gDec iX11_edge_ok 25 rfl) rfl rfl ?_
      refine go_iload (q := 45) (gDec iX11_edge_ok 26 rfl) rfl rfl ?_
      refine go_callS (n2 := 0) (q := 48) kX11_95 (ctX11_pointAt (g := g) (c := c) (p := i)) (gDec iX11_edge_ok 27 rfl) rfl rfl (Nat.le_of_ble_eq_true rfl) rfl (gFit_rm (by decide) (by decide)) rfl ?_
      refine go_ialdN (q := 49) (gDec iX11_edge_ok 28 rfl) rfl (by decide) (by omega) (by decide) rfl ?_
      refine go_top (v' := τ.1 10 ((g * 3 + c) * 12 + i)) (hM.px hg hc (by omega) rfl) ?_
      refine go_istore (q := 51) (gDec iX11_edge_ok 29 rfl) (by decide) rfl ?_
      refine go_iload (q := 53) (gDec iX11_edge_ok 30 rfl) rfl rfl ?_
      refine go_if_eq (t := 61) (q := 56) (gDec iX11_edge_ok 31 rfl) (by decide) rfl (fun c53 => False.elim (absurd c53 (by decide))) (fun c53 => ?_)
      refine go_iload (q := 58) (gDec iX11_edge_ok 32 rfl) rfl rfl ?_
      refine go_goto (t := 80) (gDec iX11_edge_ok 33 rfl) (by decide) ?_
      refine go_istore_n (q := 81) (gDec iX11_edge_ok 43 rfl) rfl (by decide) rfl ?_
      refine go_iconst (v := 0) (q := 82) (gDec iX11_edge_ok 44 rfl) (by decide) rfl ?_
      refine go_istore (q := 84) (gDec iX11_edge_ok 45 rfl) (by decide) rfl ?_
      refine go_iinc (v := nI (i + 1)) (q := 87) (gDec iX11_edge_ok 46 rfl) rfl (nI_1 _) (by decide) rfl ?_
      refine go_goto (t := 22) (gDec iX11_edge_ok 47 rfl) (by decide) ?_
      refine go_sub (L' := [(0, .ref (κ.2.1 + 376)), (1, .int (nI g)), (2, .int 1), (3, .int (((fun p a => gEd1 false a (τ.1 10 ((g * 3 + c) * 12 + p))) i none).getD 0)), (4, .int (oF ((fun p a => gEd1 false a (τ.1 10 ((g * 3 + c) * 12 + p))) i none))), (5, .int (nI c)), (6, .int (nI (i + 1)))]) ⟨rfl, rfl, rfl, rfl, rfl, rfl, rfl, trivial⟩ ?_
      exact ih (i + 1) ((fun p a => gEd1 false a (τ.1 10 ((g * 3 + c) * 12 + p))) i none) (by omega) h
    | some x =>
      refine go_iload (q := 24) (gDec iX11_edge_ok 14 rfl) rfl rfl ?_
      refine go_aload_n (q := 25) (gDec iX11_edge_ok 15 rfl) rfl rfl rfl ?_
      refine go_iload_n (q := 26) (gDec iX11_edge_ok 16 rfl) rfl rfl rfl ?_
      refine go_iconst (v := nI 2) (q := 27) (gDec iX11_edge_ok 17 rfl) (by decide) rfl ?_
      refine go_iload (q := 29) (gDec iX11_edge_ok 18 rfl) rfl rfl ?_
      refine go_iaddN (c := 2 + c) (q := 30) (gDec iX11_edge_ok 19 rfl) rfl rfl ?_
      refine go_callV (n2 := 0) (q := 33) kX11_69 (ctX11_of (g := g) (w := 2 + c) (by omega)) (gDec iX11_edge_ok 20 rfl) rfl rfl (by decide) rfl rfl rfl (Nat.le_of_ble_eq_true rfl) rfl (gFit_rm (by decide) (by decide)) rfl ?_
      refine go_top (v' := nI (gNp τ g c)) (hM.np hW hg hc rfl) ?_
      refine go_icmp_ge (t := 90) (q := 36) (gDec iX11_edge_ok 21 rfl) (by decide) rfl (fun c33 => False.elim (nI_ge (a := i) (b := gNp τ g c) (by omega) (by omega) c33)) (fun c33 => ?_)
      refine go_aload_n (q := 37) (gDec iX11_edge_ok 22 rfl) rfl rfl rfl ?_
      refine go_getr (r' := 377) (q := 40) fX11_9 (gDec iX11_edge_ok 23 rfl) rfl (by decide) rfl ?_
      refine go_iload_n (q := 41) (gDec iX11_edge_ok 24 rfl) rfl rfl rfl ?_
      refine go_iload (q := 43) (gDec iX11_edge_ok 25 rfl) rfl rfl ?_
      refine go_iload (q := 45) (gDec iX11_edge_ok 26 rfl) rfl rfl ?_
      refine go_callS (n2 := 0) (q := 48) kX11_95 (ctX11_pointAt (g := g) (c := c) (p := i)) (gDec iX11_edge_ok 27 rfl) rfl rfl (Nat.le_of_ble_eq_true rfl) rfl (gFit_rm (by decide) (by decide)) rfl ?_
      refine go_ialdN (q := 49) (gDec iX11_edge_ok 28 rfl) rfl (by decide) (by omega) (by decide) rfl ?_
      refine go_top (v' := τ.1 10 ((g * 3 + c) * 12 + i)) (hM.px hg hc (by omega) rfl) ?_
      refine go_istore (q := 51) (gDec iX11_edge_ok 29 rfl) (by decide) rfl ?_
      refine go_iload (q := 53) (gDec iX11_edge_ok 30 rfl) rfl rfl ?_
      refine go_if_eq (t := 61) (q := 56) (gDec iX11_edge_ok 31 rfl) (by decide) rfl (fun c53 => ?_) (fun c53 => False.elim (c53 rfl))
      refine go_iload_n (q := 62) (gDec iX11_edge_ok 34 rfl) rfl rfl rfl ?_
      refine go_if_eq (t := 74) (q := 65) (gDec iX11_edge_ok 35 rfl) (by decide) rfl (fun c62 => False.elim (absurd c62 (by decide))) (fun c62 => ?_)
      refine go_iload_n (q := 66) (gDec iX11_edge_ok 36 rfl) rfl rfl rfl ?_
      refine go_iload (q := 68) (gDec iX11_edge_ok 37 rfl) rfl rfl ?_
      refine go_min (q := 71) kX11_111 (gDec iX11_edge_ok 38 rfl) (Nat.le_of_ble_eq_true rfl) (gFit_rm (by decide) (by decide)) rfl ?_
      refine go_goto (t := 80) (gDec iX11_edge_ok 39 rfl) (by decide) ?_
      refine go_istore_n (q := 81) (gDec iX11_edge_ok 43 rfl) rfl (by decide) rfl ?_
      refine go_iconst (v := 0) (q := 82) (gDec iX11_edge_ok 44 rfl) (by decide) rfl ?_
      refine go_istore (q := 84) (gDec iX11_edge_ok 45 rfl) (by decide) rfl ?_
      refine go_iinc (v := nI (i + 1)) (q := 87) (gDec iX11_edge_ok 46 rfl) rfl (nI_1 _) (by decide) rfl ?_
      refine go_goto (t := 22) (gDec iX11_edge_ok 47 rfl) (by decide) ?_
      refine go_sub (L' := [(0, .ref (κ.2.1 + 376)), (1, .int (nI g)), (2, .int 1), (3, .int (((fun p a => gEd1 false a (τ.1 10 ((g * 3 + c) * 12 + p))) i (some x)).getD 0)), (4, .int (oF ((fun p a => gEd1 false a (τ.1 10 ((g * 3 + c) * 12 + p))) i (some x)))), (5, .int (nI c)), (6, .int (nI (i + 1)))]) ⟨rfl, rfl, rfl, rfl, rfl, rfl, rfl, trivial⟩ ?_
      exact ih (i + 1) ((fun p a => gEd1 false a (τ.1 10 ((g * 3 + c) * 12 + p))) i (some x)) (by omega) h

set_option maxHeartbeats 4000000 in
set_option maxRecDepth 100000 in
theorem lpX11_edge1l {κ : gK} {Z : gZ} {σ : gST} {τ : gST}  {g : Nat} (hW : gDW τ) (hM : gMR τ (σ.1 377)) (hg : g < gNg τ) : ∀ (m i : Nat) (a : Option Int32), i + m = (gNc τ g) → Go κ mX11_edge (gRm 2 0) Z 96 [(0, .ref (κ.2.1 + 376)), (1, .int (nI g)), (2, .int 1), (3, .int ((gLoop (gEdC false τ g) i m a).getD 0)), (4, .int (oF (gLoop (gEdC false τ g) i m a))), (5, .int (nI (gNc τ g)))] [] σ 0 → Go κ mX11_edge (gRm 2 0) Z 8 [(0, .ref (κ.2.1 + 376)), (1, .int (nI g)), (2, .int 1), (3, .int (a.getD 0)), (4, .int (oF a)), (5, .int (nI i))] [] σ 0 := by
  have h24 := hW.ng24
  have h3 := hW.nc3 (g := g) (by omega)
  intro m
  induction m with
  | zero =>
    intro i a hi h
    have hiN : (gNc τ g) = i := by omega
    rw [hiN] at h
    refine go_iload (q := 10) (gDec iX11_edge_ok 6 rfl) rfl rfl ?_
    refine go_aload_n (q := 11) (gDec iX11_edge_ok 7 rfl) rfl rfl rfl ?_
    refine go_iload_n (q := 12) (gDec iX11_edge_ok 8 rfl) rfl rfl rfl ?_
    refine go_iconst (v := nI 1) (q := 13) (gDec iX11_edge_ok 9 rfl) (by decide) rfl ?_
    refine go_callV (n2 := 0) (q := 16) kX11_69 (ctX11_of (g := g) (w := 1) (by omega)) (gDec iX11_edge_ok 10 rfl) rfl rfl (by decide) rfl rfl rfl (Nat.le_of_ble_eq_true rfl) rfl (gFit_rm (by decide) (by decide)) rfl ?_
    refine go_top (v' := nI (gNc τ g)) (hM.nc hW hg rfl) ?_
    refine go_icmp_ge (t := 96) (q := 19) (gDec iX11_edge_ok 11 rfl) (by decide) rfl (fun c16 => ?_) (fun c16 => False.elim (c16 (nI_le (a := (gNc τ g)) (b := i) (by omega) (by omega))))
    refine go_sub (L' := [(0, .ref (κ.2.1 + 376)), (1, .int (nI g)), (2, .int 1), (3, .int (a.getD 0)), (4, .int (oF a)), (5, .int (nI i))]) ⟨rfl, rfl, rfl, rfl, rfl, rfl, trivial⟩ ?_
    exact h
  | succ m ih =>
    intro i a hi h
    refine go_iload (q := 10) (gDec iX11_edge_ok 6 rfl) rfl rfl ?_
    refine go_aload_n (q := 11) (gDec iX11_edge_ok 7 rfl) rfl rfl rfl ?_
    refine go_iload_n (q := 12) (gDec iX11_edge_ok 8 rfl) rfl rfl rfl ?_
    refine go_iconst (v := nI 1) (q := 13) (gDec iX11_edge_ok 9 rfl) (by decide) rfl ?_
    refine go_callV (n2 := 0) (q := 16) kX11_69 (ctX11_of (g := g) (w := 1) (by omega)) (gDec iX11_edge_ok 10 rfl) rfl rfl (by decide) rfl rfl rfl (Nat.le_of_ble_eq_true rfl) rfl (gFit_rm (by decide) (by decide)) rfl ?_
    refine go_top (v' := nI (gNc τ g)) (hM.nc hW hg rfl) ?_
    refine go_icmp_ge (t := 96) (q := 19) (gDec iX11_edge_ok 11 rfl) (by decide) rfl (fun c16 => False.elim (nI_ge (a := i) (b := (gNc τ g)) (by omega) (by omega) c16)) (fun c16 => ?_)
    refine go_iconst (v := nI 0) (q := 20) (gDec iX11_edge_ok 12 rfl) (by decide) rfl ?_
    refine go_istore (q := 22) (gDec iX11_edge_ok 13 rfl) (by decide) rfl ?_
    refine go_sub (L' := [(0, .ref (κ.2.1 + 376)), (1, .int (nI g)), (2, .int 1), (3, .int (a.getD 0)), (4, .int (oF a)), (5, .int (nI i)), (6, .int (nI 0))]) ⟨rfl, rfl, rfl, rfl, rfl, rfl, rfl, trivial⟩ ?_
    refine lpX11_edge2l hW hM hg (by omega) (gNp τ g i) 0 a (by omega) ?_
    refine go_iinc (v := nI (i + 1)) (q := 93) (gDec iX11_edge_ok 48 rfl) rfl (nI_1 _) (by decide) rfl ?_
    refine go_goto (t := 8) (gDec iX11_edge_ok 49 rfl) (by decide) ?_
    refine go_sub (L' := [(0, .ref (κ.2.1 + 376)), (1, .int (nI g)), (2, .int 1), (3, .int (((gEdC false τ g) i a).getD 0)), (4, .int (oF ((gEdC false τ g) i a))), (5, .int (nI (i + 1)))]) ⟨rfl, rfl, rfl, rfl, rfl, rfl, trivial⟩ ?_
    exact ih (i + 1) ((gEdC false τ g) i a) (by omega) h

set_option maxHeartbeats 4000000 in
set_option maxRecDepth 100000 in
theorem ctX11_edgel {κ : gK} {σ : gST} {τ : gST}  {g : Nat} (hW : gDW τ) (hM : gMR τ (σ.1 377)) (hg : g < gNg τ) : gCt κ mX11_edge 2 [.ref (κ.2.1 + 376), .int (nI g), .int 1] σ (.inl (some (.int (gEd false τ g)))) σ 0 := by
  refine ct_of (by decide +kernel) rfl (Nat.le_of_ble_eq_true rfl) rfl ?_
  refine go_iconst (v := 0) (q := 1) (gDec iX11_edge_ok 0 rfl) (by decide) rfl ?_
  refine go_istore_n (q := 2) (gDec iX11_edge_ok 1 rfl) rfl (by decide) rfl ?_
  refine go_iconst (v := 1) (q := 3) (gDec iX11_edge_ok 2 rfl) (by decide) rfl ?_
  refine go_istore (q := 5) (gDec iX11_edge_ok 3 rfl) (by decide) rfl ?_
  refine go_iconst (v := nI 0) (q := 6) (gDec iX11_edge_ok 4 rfl) (by decide) rfl ?_
  refine go_istore (q := 8) (gDec iX11_edge_ok 5 rfl) (by decide) rfl ?_
  refine go_sub (L' := [(0, .ref (κ.2.1 + 376)), (1, .int (nI g)), (2, .int 1), (3, .int ((none : Option Int32).getD 0)), (4, .int (oF (none : Option Int32))), (5, .int (nI 0))]) ⟨rfl, rfl, rfl, rfl, rfl, rfl, trivial⟩ ?_
  refine lpX11_edge1l hW hM hg (gNc τ g) 0 none (by omega) ?_
  refine go_iload_n (q := 97) (gDec iX11_edge_ok 50 rfl) rfl rfl rfl ?_
  exact go_ireturn (gDec iX11_edge_ok 51 rfl) rfl rfl rfl rfl (by decide)
