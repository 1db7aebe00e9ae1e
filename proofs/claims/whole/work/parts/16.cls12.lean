/-- one sign set: where the next begins, and the world -/
def gSetS (σ : gST) (i : Nat) (a : Int32 × gST) : Int32 × gST :=
  let e := a.1 + (match oA (σ.1 365 i) with | none => σ.1 1 5 | some g => gAdv σ g)
  ((match oA (σ.1 365 i), gPg σ (i + 1) with | some g, some h => e + σ.1 1 4 + gKn σ g h | _, _ => e + σ.1 1 4), gPut (gPut a.2 367 i a.1) 369 i e)
abbrev gSetI (σ a : gST) : Prop := gEqD σ a ∧ a.1 365 = σ.1 365 ∧ a.1 363 = σ.1 363
theorem gSetI.put {σ a : gST} (h : gSetI σ a) {b : Nat} (hb : 367 ≤ b) (i : Nat) (v : Int32) : gSetI σ (gPut a b i v) :=
  ⟨h.1.put (by omega) _ _, (gPut_ne _ _ _ (by omega)).trans h.2.1, (gPut_ne _ _ _ (by omega)).trans h.2.2⟩
theorem gSetS_I {σ : gST} (i : Nat) (a : Int32 × gST) (h : gSetI σ a.2) : gSetI σ (gSetS σ i a).2 := (h.put (by decide) _ _).put (by decide) _ _
theorem gSetI.pw {σ a : gST} (h : gSetI σ a) (hP : gPW σ) : gPW a := by
  unfold gPW at hP ⊢
  rw [h.2.1, h.2.2]
  exact hP
theorem gSetI.pg {σ a : gST} (h : gSetI σ a) : gPg a = gPg σ := by
  funext i
  unfold gPg gPl_
  rw [h.2.1, h.2.2]
theorem gPg_lt {σ : gST} {i h : Nat} (hi : gPg σ i = some h) : i < gPl_ σ := by
  unfold gPg at hi
  by_cases h1 : i < gPl_ σ
  · exact h1
  · rw [if_neg h1] at hi; cases hi
theorem gPg_g {σ : gST} {i h : Nat} (hi : gPg σ i = some h) : oA (σ.1 365 i) = some h := by
  have h1 := gPg_lt hi
  unfold gPg at hi
  rw [if_pos h1] at hi
  exact hi

set_option maxHeartbeats 4000000 in
set_option maxRecDepth 100000 in
theorem lpX6_set3 {κ : gK} {Z : gZ} {σ : gST} {i : Nat} {a : Int32 × gST} (hW : gDW σ) (hP : gPW σ) (hi : i < gPl_ σ) (hI : gSetI σ a.2) (kk : Go κ mX6_set (gRm 6 0) Z 127 [(0, .ref (κ.2.1 + 363)), (1, .ref (κ.2.1 + 1)), (2, .int (gSetS σ i a).1), (3, .int (nI i))] [] (gSetS σ i a).2 0) : Go κ mX6_set (gRm 6 0) Z 30 [(0, .ref (κ.2.1 + 363)), (1, .ref (κ.2.1 + 1)), (2, .int a.1), (3, .int (nI i))] [] a.2 0 := by
  have h60 := hP.pl60
  have hg := hP.gl (i := i) (by omega)
  cases hoc : oA (σ.1 365 i) with
  | none =>
    rw [hoc] at hg
    have hpi : gPg σ i = none := (if_pos hi).trans hoc
    refine go_aload_n (q := 31) (gDec iX6_set_ok 18 rfl) rfl rfl rfl ?_
    refine go_getr (r' := 366) (q := 34) fX6_20 (gDec iX6_set_ok 19 rfl) rfl (by decide) rfl ?_
    refine go_iload_n (q := 35) (gDec iX6_set_ok 20 rfl) rfl rfl rfl ?_
    refine go_iload_n (q := 36) (gDec iX6_set_ok 21 rfl) rfl rfl rfl ?_
    refine go_callV (n2 := 0) (q := 39) kX6_62 (ctX7_put (a := 367) rfl rfl (by decide) (by decide) (by omega) (by decide)) (gDec iX6_set_ok 22 rfl) rfl rfl (by decide) rfl rfl rfl (Nat.le_of_ble_eq_true rfl) rfl (gFit_rm (by decide) (by decide)) rfl ?_
    refine go_aload_n (q := 40) (gDec iX6_set_ok 23 rfl) rfl rfl rfl ?_
    refine go_getr (r' := 364) (q := 43) fX6_14 (gDec iX6_set_ok 24 rfl) rfl (by decide) rfl ?_
    refine go_iload_n (q := 44) (gDec iX6_set_ok 25 rfl) rfl rfl rfl ?_
    refine go_callV (n2 := 0) (q := 47) kX6_73 (ctX7_get (a := 365) rfl rfl (by decide) (by decide) (by omega) (by decide)) (gDec iX6_set_ok 26 rfl) rfl rfl (by decide) rfl rfl rfl (Nat.le_of_ble_eq_true rfl) rfl (gFit_rm (by decide) (by decide)) rfl ?_
    have hI2 : gSetI σ (gPut a.2 367 i a.1) := hI.put (by decide) _ _
    refine go_top (v' := -1) ((congrFun hI2.2.1 i).trans hg) ?_
    refine go_istore (q := 49) (gDec iX6_set_ok 27 rfl) (by decide) rfl ?_
    refine go_iload_n (q := 50) (gDec iX6_set_ok 28 rfl) rfl rfl rfl ?_
    refine go_iload (q := 52) (gDec iX6_set_ok 29 rfl) rfl rfl ?_
    refine go_iconst (v := (-1)) (q := 53) (gDec iX6_set_ok 30 rfl) (by decide) rfl ?_
    refine go_icmp_ne (t := 63) (q := 56) (gDec iX6_set_ok 31 rfl) (by decide) rfl (fun c53 => False.elim (c53 rfl)) (fun c53 => ?_)
    refine go_aload_n (q := 57) (gDec iX6_set_ok 32 rfl) rfl rfl rfl ?_
    refine go_geti (q := 60) fX6_70 (gDec iX6_set_ok 33 rfl) rfl (by decide) rfl ?_
    refine go_top (v' := σ.1 1 5) (congrFun (hI2.1 1 (by decide)) 5) ?_
    refine go_goto (t := 69) (gDec iX6_set_ok 34 rfl) (by decide) ?_
    refine go_iadd (q := 70) (gDec iX6_set_ok 38 rfl) rfl ?_
    refine go_istore_n (q := 71) (gDec iX6_set_ok 39 rfl) rfl (by decide) rfl ?_
    refine go_aload_n (q := 72) (gDec iX6_set_ok 40 rfl) rfl rfl rfl ?_
    refine go_getr (r' := 368) (q := 75) fX6_23 (gDec iX6_set_ok 41 rfl) rfl (by decide) rfl ?_
    refine go_iload_n (q := 76) (gDec iX6_set_ok 42 rfl) rfl rfl rfl ?_
    refine go_iload_n (q := 77) (gDec iX6_set_ok 43 rfl) rfl rfl rfl ?_
    refine go_callV (n2 := 0) (q := 80) kX6_62 (ctX7_put (a := 369) rfl rfl (by decide) (by decide) (by omega) (by decide)) (gDec iX6_set_ok 44 rfl) rfl rfl (by decide) rfl rfl rfl (Nat.le_of_ble_eq_true rfl) rfl (gFit_rm (by decide) (by decide)) rfl ?_
    have hI3 : gSetI σ (gPut (gPut a.2 367 i a.1) 369 i (a.1 + σ.1 1 5)) := hI2.put (by decide) _ _
    refine go_iload_n (q := 81) (gDec iX6_set_ok 45 rfl) rfl rfl rfl ?_
    refine go_aload_n (q := 82) (gDec iX6_set_ok 46 rfl) rfl rfl rfl ?_
    refine go_geti (q := 85) fX6_65 (gDec iX6_set_ok 47 rfl) rfl (by decide) rfl ?_
    refine go_top (v' := σ.1 1 4) (congrFun (hI3.1 1 (by decide)) 4) ?_
    refine go_iadd (q := 86) (gDec iX6_set_ok 48 rfl) rfl ?_
    refine go_istore_n (q := 87) (gDec iX6_set_ok 49 rfl) rfl (by decide) rfl ?_
    refine go_aload_n (q := 88) (gDec iX6_set_ok 50 rfl) rfl rfl rfl ?_
    refine go_iload_n (q := 89) (gDec iX6_set_ok 51 rfl) rfl rfl rfl ?_
    refine go_callV (n2 := 0) (q := 92) kX6_79 (ctX6_isSpace (i := i) (hI3.pw hP) (by omega)) (gDec iX6_set_ok 52 rfl) rfl rfl (by decide) rfl rfl rfl (Nat.le_of_ble_eq_true rfl) rfl (gFit_rm (by decide) (by decide)) rfl ?_
    refine go_top (v' := if gPg σ i = none then 1 else 0) (by rw [hI3.pg]) ?_
    refine go_if_ne (t := 127) (q := 95) (gDec iX6_set_ok 53 rfl) (by decide) rfl (fun c92 => ?_) (fun c92 => False.elim (by rw [if_pos hpi] at c92; exact absurd c92 (by decide)))
    rw [show gSetS σ i a = ((a.1 + σ.1 1 5) + σ.1 1 4, gPut (gPut a.2 367 i a.1) 369 i (a.1 + σ.1 1 5)) from (by unfold gSetS; rw [hoc])] at kk
    refine go_sub (L' := [(0, .ref (κ.2.1 + 363)), (1, .ref (κ.2.1 + 1)), (2, .int ((a.1 + σ.1 1 5) + σ.1 1 4)), (3, .int (nI i))]) ⟨rfl, rfl, rfl, rfl, trivial⟩ ?_
    exact kk
  | some g =>
    rw [hoc] at hg
    have hg24 := hP.gl24 (i := i) (by omega) hoc
    have hpi : ¬ gPg σ i = none := by rw [show gPg σ i = some g from (if_pos hi).trans hoc]; intro h; cases h
    cases hc : gPg σ (i + 1) with
    | none =>
      refine go_aload_n (q := 31) (gDec iX6_set_ok 18 rfl) rfl rfl rfl ?_
      refine go_getr (r' := 366) (q := 34) fX6_20 (gDec iX6_set_ok 19 rfl) rfl (by decide) rfl ?_
      refine go_iload_n (q := 35) (gDec iX6_set_ok 20 rfl) rfl rfl rfl ?_
      refine go_iload_n (q := 36) (gDec iX6_set_ok 21 rfl) rfl rfl rfl ?_
      refine go_callV (n2 := 0) (q := 39) kX6_62 (ctX7_put (a := 367) rfl rfl (by decide) (by decide) (by omega) (by decide)) (gDec iX6_set_ok 22 rfl) rfl rfl (by decide) rfl rfl rfl (Nat.le_of_ble_eq_true rfl) rfl (gFit_rm (by decide) (by decide)) rfl ?_
      refine go_aload_n (q := 40) (gDec iX6_set_ok 23 rfl) rfl rfl rfl ?_
      refine go_getr (r' := 364) (q := 43) fX6_14 (gDec iX6_set_ok 24 rfl) rfl (by decide) rfl ?_
      refine go_iload_n (q := 44) (gDec iX6_set_ok 25 rfl) rfl rfl rfl ?_
      refine go_callV (n2 := 0) (q := 47) kX6_73 (ctX7_get (a := 365) rfl rfl (by decide) (by decide) (by omega) (by decide)) (gDec iX6_set_ok 26 rfl) rfl rfl (by decide) rfl rfl rfl (Nat.le_of_ble_eq_true rfl) rfl (gFit_rm (by decide) (by decide)) rfl ?_
      have hI2 : gSetI σ (gPut a.2 367 i a.1) := hI.put (by decide) _ _
      refine go_top (v' := nI g) ((congrFun hI2.2.1 i).trans hg) ?_
      refine go_istore (q := 49) (gDec iX6_set_ok 27 rfl) (by decide) rfl ?_
      refine go_iload_n (q := 50) (gDec iX6_set_ok 28 rfl) rfl rfl rfl ?_
      refine go_iload (q := 52) (gDec iX6_set_ok 29 rfl) rfl rfl ?_
      refine go_iconst (v := (-1)) (q := 53) (gDec iX6_set_ok 30 rfl) (by decide) rfl ?_
      refine go_icmp_ne (t := 63) (q := 56) (gDec iX6_set_ok 31 rfl) (by decide) rfl (fun c53 => ?_) (fun c53 => False.elim (lI_some (b := g) (by omega) c53))
      refine go_aload_n (q := 64) (gDec iX6_set_ok 35 rfl) rfl rfl rfl ?_
      refine go_iload (q := 66) (gDec iX6_set_ok 36 rfl) rfl rfl ?_
      refine go_callV (n2 := 0) (q := 69) kX6_76 (ctX1_advanceOf (g := g) (hI2.1.dw hW) (by omega)) (gDec iX6_set_ok 37 rfl) rfl rfl (by decide) rfl rfl rfl (Nat.le_of_ble_eq_true rfl) rfl (gFit_rm (by decide) (by decide)) rfl ?_
      refine go_top (v' := gAdv σ g) (congrFun hI2.1.adv g) ?_
      refine go_iadd (q := 70) (gDec iX6_set_ok 38 rfl) rfl ?_
      refine go_istore_n (q := 71) (gDec iX6_set_ok 39 rfl) rfl (by decide) rfl ?_
      refine go_aload_n (q := 72) (gDec iX6_set_ok 40 rfl) rfl rfl rfl ?_
      refine go_getr (r' := 368) (q := 75) fX6_23 (gDec iX6_set_ok 41 rfl) rfl (by decide) rfl ?_
      refine go_iload_n (q := 76) (gDec iX6_set_ok 42 rfl) rfl rfl rfl ?_
      refine go_iload_n (q := 77) (gDec iX6_set_ok 43 rfl) rfl rfl rfl ?_
      refine go_callV (n2 := 0) (q := 80) kX6_62 (ctX7_put (a := 369) rfl rfl (by decide) (by decide) (by omega) (by decide)) (gDec iX6_set_ok 44 rfl) rfl rfl (by decide) rfl rfl rfl (Nat.le_of_ble_eq_true rfl) rfl (gFit_rm (by decide) (by decide)) rfl ?_
      have hI3 : gSetI σ (gPut (gPut a.2 367 i a.1) 369 i (a.1 + gAdv σ g)) := hI2.put (by decide) _ _
      refine go_iload_n (q := 81) (gDec iX6_set_ok 45 rfl) rfl rfl rfl ?_
      refine go_aload_n (q := 82) (gDec iX6_set_ok 46 rfl) rfl rfl rfl ?_
      refine go_geti (q := 85) fX6_65 (gDec iX6_set_ok 47 rfl) rfl (by decide) rfl ?_
      refine go_top (v' := σ.1 1 4) (congrFun (hI3.1 1 (by decide)) 4) ?_
      refine go_iadd (q := 86) (gDec iX6_set_ok 48 rfl) rfl ?_
      refine go_istore_n (q := 87) (gDec iX6_set_ok 49 rfl) rfl (by decide) rfl ?_
      refine go_aload_n (q := 88) (gDec iX6_set_ok 50 rfl) rfl rfl rfl ?_
      refine go_iload_n (q := 89) (gDec iX6_set_ok 51 rfl) rfl rfl rfl ?_
      refine go_callV (n2 := 0) (q := 92) kX6_79 (ctX6_isSpace (i := i) (hI3.pw hP) (by omega)) (gDec iX6_set_ok 52 rfl) rfl rfl (by decide) rfl rfl rfl (Nat.le_of_ble_eq_true rfl) rfl (gFit_rm (by decide) (by decide)) rfl ?_
      refine go_top (v' := if gPg σ i = none then 1 else 0) (by rw [hI3.pg]) ?_
      refine go_if_ne (t := 127) (q := 95) (gDec iX6_set_ok 53 rfl) (by decide) rfl (fun c92 => False.elim (by rw [if_neg hpi] at c92; exact c92 rfl)) (fun c92 => ?_)
      refine go_aload_n (q := 96) (gDec iX6_set_ok 54 rfl) rfl rfl rfl ?_
      refine go_iload_n (q := 97) (gDec iX6_set_ok 55 rfl) rfl rfl rfl ?_
      refine go_iconst (v := 1) (q := 98) (gDec iX6_set_ok 56 rfl) (by decide) rfl ?_
      refine go_iadd (q := 99) (gDec iX6_set_ok 57 rfl) rfl ?_
      refine go_top (v' := nI (i + 1)) (nI_1 i) ?_
      refine go_callV (n2 := 0) (q := 102) kX6_79 (ctX6_isSpace (i := i + 1) (hI3.pw hP) (by omega)) (gDec iX6_set_ok 58 rfl) rfl rfl (by decide) rfl rfl rfl (Nat.le_of_ble_eq_true rfl) rfl (gFit_rm (by decide) (by decide)) rfl ?_
      refine go_top (v' := if gPg σ (i + 1) = none then 1 else 0) (by rw [hI3.pg]) ?_
      refine go_if_ne (t := 127) (q := 105) (gDec iX6_set_ok 59 rfl) (by decide) rfl (fun c102 => ?_) (fun c102 => False.elim (by rw [if_pos hc] at c102; exact absurd c102 (by decide)))
      rw [show gSetS σ i a = ((a.1 + gAdv σ g) + σ.1 1 4, gPut (gPut a.2 367 i a.1) 369 i (a.1 + gAdv σ g)) from (by unfold gSetS; rw [hoc, hc])] at kk
      refine go_sub (L' := [(0, .ref (κ.2.1 + 363)), (1, .ref (κ.2.1 + 1)), (2, .int ((a.1 + gAdv σ g) + σ.1 1 4)), (3, .int (nI i))]) ⟨rfl, rfl, rfl, rfl, trivial⟩ ?_
      exact kk
    | some h =>
      have hl2 := gPg_lt hc
      have hh24 := hP.gl24 (i := i + 1) (by omega) (gPg_g hc)
      have hgn := hP.gl (i := i + 1) (by omega)
      rw [gPg_g hc] at hgn
      have hpn : ¬ gPg σ (i + 1) = none := by rw [hc]; intro h; cases h
      refine go_aload_n (q := 31) (gDec iX6_set_ok 18 rfl) rfl rfl rfl ?_
      refine go_getr (r' := 366) (q := 34) fX6_20 (gDec iX6_set_ok 19 rfl) rfl (by decide) rfl ?_
      refine go_iload_n (q := 35) (gDec iX6_set_ok 20 rfl) rfl rfl rfl ?_
      refine go_iload_n (q := 36) (gDec iX6_set_ok 21 rfl) rfl rfl rfl ?_
      refine go_callV (n2 := 0) (q := 39) kX6_62 (ctX7_put (a := 367) rfl rfl (by decide) (by decide) (by omega) (by decide)) (gDec iX6_set_ok 22 rfl) rfl rfl (by decide) rfl rfl rfl (Nat.le_of_ble_eq_true rfl) rfl (gFit_rm (by decide) (by decide)) rfl ?_
      refine go_aload_n (q := 40) (gDec iX6_set_ok 23 rfl) rfl rfl rfl ?_
      refine go_getr (r' := 364) (q := 43) fX6_14 (gDec iX6_set_ok 24 rfl) rfl (by decide) rfl ?_
      refine go_iload_n (q := 44) (gDec iX6_set_ok 25 rfl) rfl rfl rfl ?_
      refine go_callV (n2 := 0) (q := 47) kX6_73 (ctX7_get (a := 365) rfl rfl (by decide) (by decide) (by omega) (by decide)) (gDec iX6_set_ok 26 rfl) rfl rfl (by decide) rfl rfl rfl (Nat.le_of_ble_eq_true rfl) rfl (gFit_rm (by decide) (by decide)) rfl ?_
      have hI2 : gSetI σ (gPut a.2 367 i a.1) := hI.put (by decide) _ _
      refine go_top (v' := nI g) ((congrFun hI2.2.1 i).trans hg) ?_
      refine go_istore (q := 49) (gDec iX6_set_ok 27 rfl) (by decide) rfl ?_
      refine go_iload_n (q := 50) (gDec iX6_set_ok 28 rfl) rfl rfl rfl ?_
      refine go_iload (q := 52) (gDec iX6_set_ok 29 rfl) rfl rfl ?_
      refine go_iconst (v := (-1)) (q := 53) (gDec iX6_set_ok 30 rfl) (by decide) rfl ?_
      refine go_icmp_ne (t := 63) (q := 56) (gDec iX6_set_ok 31 rfl) (by decide) rfl (fun c53 => ?_) (fun c53 => False.elim (lI_some (b := g) (by omega) c53))
      refine go_aload_n (q := 64) (gDec iX6_set_ok 35 rfl) rfl rfl rfl ?_
      refine go_iload (q := 66) (gDec iX6_set_ok 36 rfl) rfl rfl ?_
      refine go_callV (n2 := 0) (q := 69) kX6_76 (ctX1_advanceOf (g := g) (hI2.1.dw hW) (by omega)) (gDec iX6_set_ok 37 rfl) rfl rfl (by decide) rfl rfl rfl (Nat.le_of_ble_eq_true rfl) rfl (gFit_rm (by decide) (by decide)) rfl ?_
      refine go_top (v' := gAdv σ g) (congrFun hI2.1.adv g) ?_
      refine go_iadd (q := 70) (gDec iX6_set_ok 38 rfl) rfl ?_
      refine go_istore_n (q := 71) (gDec iX6_set_ok 39 rfl) rfl (by decide) rfl ?_
      refine go_aload_n (q := 72) (gDec iX6_set_ok 40 rfl) rfl rfl rfl ?_
      refine go_getr (r' := 368) (q := 75) fX6_23 (gDec iX6_set_ok 41 rfl) rfl (by decide) rfl ?_
      refine go_iload_n (q := 76) (gDec iX6_set_ok 42 rfl) rfl rfl rfl ?_
      refine go_iload_n (q := 77) (gDec iX6_set_ok 43 rfl) rfl rfl rfl ?_
      refine go_callV (n2 := 0) (q := 80) kX6_62 (ctX7_put (a := 369) rfl rfl (by decide) (by decide) (by omega) (by decide)) (gDec iX6_set_ok 44 rfl) rfl rfl (by decide) rfl rfl rfl (Nat.le_of_ble_eq_true rfl) rfl (gFit_rm (by decide) (by decide)) rfl ?_
      have hI3 : gSetI σ (gPut (gPut a.2 367 i a.1) 369 i (a.1 + gAdv σ g)) := hI2.put (by decide) _ _
      have hI3' := hI3.1.dw hW
      refine go_iload_n (q := 81) (gDec iX6_set_ok 45 rfl) rfl rfl rfl ?_
      refine go_aload_n (q := 82) (gDec iX6_set_ok 46 rfl) rfl rfl rfl ?_
      refine go_geti (q := 85) fX6_65 (gDec iX6_set_ok 47 rfl) rfl (by decide) rfl ?_
      refine go_top (v' := σ.1 1 4) (congrFun (hI3.1 1 (by decide)) 4) ?_
      refine go_iadd (q := 86) (gDec iX6_set_ok 48 rfl) rfl ?_
      refine go_istore_n (q := 87) (gDec iX6_set_ok 49 rfl) rfl (by decide) rfl ?_
      refine go_aload_n (q := 88) (gDec iX6_set_ok 50 rfl) rfl rfl rfl ?_
      refine go_iload_n (q := 89) (gDec iX6_set_ok 51 rfl) rfl rfl rfl ?_
      refine go_callV (n2 := 0) (q := 92) kX6_79 (ctX6_isSpace (i := i) (hI3.pw hP) (by omega)) (gDec iX6_set_ok 52 rfl) rfl rfl (by decide) rfl rfl rfl (Nat.le_of_ble_eq_true rfl) rfl (gFit_rm (by decide) (by decide)) rfl ?_
      refine go_top (v' := if gPg σ i = none then 1 else 0) (by rw [hI3.pg]) ?_
      refine go_if_ne (t := 127) (q := 95) (gDec iX6_set_ok 53 rfl) (by decide) rfl (fun c92 => False.elim (by rw [if_neg hpi] at c92; exact c92 rfl)) (fun c92 => ?_)
      refine go_aload_n (q := 96) (gDec iX6_set_ok 54 rfl) rfl rfl rfl ?_
      refine go_iload_n (q := 97) (gDec iX6_set_ok 55 rfl) rfl rfl rfl ?_
      refine go_iconst (v := 1) (q := 98) (gDec iX6_set_ok 56 rfl) (by decide) rfl ?_
      refine go_iadd (q := 99) (gDec iX6_set_ok 57 rfl) rfl ?_
      refine go_top (v' := nI (i + 1)) (nI_1 i) ?_
      refine go_callV (n2 := 0) (q := 102) kX6_79 (ctX6_isSpace (i := i + 1) (hI3.pw hP) (by omega)) (gDec iX6_set_ok 58 rfl) rfl rfl (by decide) rfl rfl rfl (Nat.le_of_ble_eq_true rfl) rfl (gFit_rm (by decide) (by decide)) rfl ?_
      refine go_top (v' := if gPg σ (i + 1) = none then 1 else 0) (by rw [hI3.pg]) ?_
      refine go_if_ne (t := 127) (q := 105) (gDec iX6_set_ok 59 rfl) (by decide) rfl (fun c102 => False.elim (by rw [if_neg hpn] at c102; exact c102 rfl)) (fun c102 => ?_)
      refine go_iload_n (q := 106) (gDec iX6_set_ok 60 rfl) rfl rfl rfl ?_
      refine go_aload_n (q := 107) (gDec iX6_set_ok 61 rfl) rfl rfl rfl ?_
      refine go_getr (r' := 20) (q := 110) fX6_83 (gDec iX6_set_ok 62 rfl) rfl (by decide) rfl ?_
      refine go_iload (q := 112) (gDec iX6_set_ok 63 rfl) rfl rfl ?_
      refine go_aload_n (q := 113) (gDec iX6_set_ok 64 rfl) rfl rfl rfl ?_
      refine go_getr (r' := 364) (q := 116) fX6_14 (gDec iX6_set_ok 65 rfl) rfl (by decide) rfl ?_
      refine go_iload_n (q := 117) (gDec iX6_set_ok 66 rfl) rfl rfl rfl ?_
      refine go_iconst (v := 1) (q := 118) (gDec iX6_set_ok 67 rfl) (by decide) rfl ?_
      refine go_iadd (q := 119) (gDec iX6_set_ok 68 rfl) rfl ?_
      refine go_top (v' := nI (i + 1)) (nI_1 i) ?_
      refine go_callV (n2 := 0) (q := 122) kX6_73 (ctX7_get (a := 365) rfl rfl (by decide) (by decide) (by omega) (by decide)) (gDec iX6_set_ok 69 rfl) rfl rfl (by decide) rfl rfl rfl (Nat.le_of_ble_eq_true rfl) rfl (gFit_rm (by decide) (by decide)) rfl ?_
      refine go_top (v' := nI h) ((congrFun hI3.2.1 (i + 1)).trans hgn) ?_
      refine go_callV (n2 := 0) (q := 125) kX6_87 (ctX4_kernOf (g := g) (h := h) (x := gKx (gPut (gPut a.2 367 i a.1) 369 i (a.1 + gAdv σ g)) g) (y := gKy (gPut (gPut a.2 367 i a.1) 369 i (a.1 + gAdv σ g)) h) hg24 hh24 (hI3'.kx hg24) (hI3'.ky hh24) (hI3'.kx6 hg24) (hI3'.ky6 hh24)) (gDec iX6_set_ok 70 rfl) rfl rfl (by decide) rfl rfl rfl (Nat.le_of_ble_eq_true rfl) rfl (gFit_rm (by decide) (by decide)) rfl ?_
      refine go_top (v' := gKn σ g h) (congrFun (congrFun hI3.1.kn g) h) ?_
      refine go_iadd (q := 126) (gDec iX6_set_ok 71 rfl) rfl ?_
      refine go_istore_n (q := 127) (gDec iX6_set_ok 72 rfl) rfl (by decide) rfl ?_
      rw [show gSetS σ i a = ((a.1 + gAdv σ g) + σ.1 1 4 + gKn σ g h, gPut (gPut a.2 367 i a.1) 369 i (a.1 + gAdv σ g)) from (by unfold gSetS; rw [hoc, hc])] at kk
      refine go_sub (L' := [(0, .ref (κ.2.1 + 363)), (1, .ref (κ.2.1 + 1)), (2, .int ((a.1 + gAdv σ g) + σ.1 1 4 + gKn σ g h)), (3, .int (nI i))]) ⟨rfl, rfl, rfl, rfl, trivial⟩ ?_
      exact kk

set_option maxHeartbeats 4000000 in
set_option maxRecDepth 100000 in
theorem lpX6_set {κ : gK} {Z : gZ}  {σ : gST} (hW : gDW σ) (hP : gPW σ) : ∀ (m i : Nat) (a : Int32 × gST), i + m = (gPl_ σ) → gSetI σ a.2 → Go κ mX6_set (gRm 6 0) Z 133 [(0, .ref (κ.2.1 + 363)), (1, .ref (κ.2.1 + 1)), (2, .int (gLoop (gSetS σ) i m a).1), (3, .int (nI (gPl_ σ)))] [] (gLoop (gSetS σ) i m a).2 0 → Go κ mX6_set (gRm 6 0) Z 22 [(0, .ref (κ.2.1 + 363)), (1, .ref (κ.2.1 + 1)), (2, .int a.1), (3, .int (nI i))] [] a.2 0 := by
  intro m
  induction m with
  | zero =>
    intro i a hi hI h
    have h60 := hP.pl60
    have hiN : (gPl_ σ) = i := by omega
    rw [hiN] at h
    refine go_iload_n (q := 23) (gDec iX6_set_ok 14 rfl) rfl rfl rfl ?_
    refine go_aload_n (q := 24) (gDec iX6_set_ok 15 rfl) rfl rfl rfl ?_
    refine go_geti (q := 27) fX6_35 (gDec iX6_set_ok 16 rfl) rfl (by decide) rfl ?_
    refine go_icmp_ge (t := 133) (q := 30) (gDec iX6_set_ok 17 rfl) (by decide) rfl (fun c27 => ?_) (fun c27 => False.elim (c27 (by rw [((congrFun hI.2.2 6).trans hP.pl)]; exact nI_le (by omega) (by omega))))
    refine go_sub (L' := [(0, .ref (κ.2.1 + 363)), (1, .ref (κ.2.1 + 1)), (2, .int a.1), (3, .int (nI i))]) ⟨rfl, rfl, rfl, rfl, trivial⟩ ?_
    exact h
  | succ m ih =>
    intro i a hi hI h
    have h60 := hP.pl60
    refine go_iload_n (q := 23) (gDec iX6_set_ok 14 rfl) rfl rfl rfl ?_
    refine go_aload_n (q := 24) (gDec iX6_set_ok 15 rfl) rfl rfl rfl ?_
    refine go_geti (q := 27) fX6_35 (gDec iX6_set_ok 16 rfl) rfl (by decide) rfl ?_
    refine go_icmp_ge (t := 133) (q := 30) (gDec iX6_set_ok 17 rfl) (by decide) rfl (fun c27 => False.elim (by rw [((congrFun hI.2.2 6).trans hP.pl)] at c27; exact nI_ge (a := i) (b := (gPl_ σ)) (by omega) (by omega) c27)) (fun c27 => ?_)
    refine go_sub (L' := [(0, .ref (κ.2.1 + 363)), (1, .ref (κ.2.1 + 1)), (2, .int a.1), (3, .int (nI i))]) ⟨rfl, rfl, rfl, rfl, trivial⟩ ?_
    refine lpX6_set3 hW hP (by omega) hI ?_
    refine go_iinc (v := nI (i + 1)) (q := 130) (gDec iX6_set_ok 73 rfl) rfl (nI_1 i) (by decide) rfl ?_
    refine go_goto (t := 22) (gDec iX6_set_ok 74 rfl) (by decide) ?_
    refine go_sub (L' := [(0, .ref (κ.2.1 + 363)), (1, .ref (κ.2.1 + 1)), (2, .int (gSetS σ i a).1), (3, .int (nI (i + 1)))]) ⟨rfl, rfl, rfl, rfl, trivial⟩ ?_
    exact ih (i + 1) (gSetS σ i a) (by omega) (gSetS_I i a hI) h

set_option maxHeartbeats 4000000 in
set_option maxRecDepth 100000 in
theorem ctX6_set {κ : gK} {σ : gST} (hW : gDW σ) (hP : gPW σ) : gCt κ mX6_set 6 [.ref (κ.2.1 + 363), .ref (κ.2.1 + 1)] σ (.inl none) (gLoop (gSetS (gPut σ 363 7 (σ.1 1 4 + σ.1 1 5 + σ.1 1 4))) 0 (gPl_ σ) (0, gPut σ 363 7 (σ.1 1 4 + σ.1 1 5 + σ.1 1 4))).2 0 := by
  have hD0 : gEqD σ (gPut σ 363 7 (σ.1 1 4 + σ.1 1 5 + σ.1 1 4)) := (gEqD.rf σ).put (by decide) _ _
  have h6 : (gPut σ 363 7 (σ.1 1 4 + σ.1 1 5 + σ.1 1 4)).1 363 6 = σ.1 363 6 := by rw [gPut_at, if_neg (by decide)]
  have hP0 : gPW (gPut σ 363 7 (σ.1 1 4 + σ.1 1 5 + σ.1 1 4)) := by
    unfold gPW
    rw [h6, gPut_ne _ _ _ (by decide)]
    exact hP
  have hl0 : gPl_ (gPut σ 363 7 (σ.1 1 4 + σ.1 1 5 + σ.1 1 4)) = gPl_ σ := by unfold gPl_; rw [h6]
  refine ct_of (by decide +kernel) rfl (Nat.le_of_ble_eq_true rfl) rfl ?_
  refine go_aload_n (q := 1) (gDec iX6_set_ok 0 rfl) rfl rfl rfl ?_
  refine go_aload_n (q := 2) (gDec iX6_set_ok 1 rfl) rfl rfl rfl ?_
  refine go_geti (q := 5) fX6_65 (gDec iX6_set_ok 2 rfl) rfl (by decide) rfl ?_
  refine go_aload_n (q := 6) (gDec iX6_set_ok 3 rfl) rfl rfl rfl ?_
  refine go_geti (q := 9) fX6_70 (gDec iX6_set_ok 4 rfl) rfl (by decide) rfl ?_
  refine go_iadd (q := 10) (gDec iX6_set_ok 5 rfl) rfl ?_
  refine go_aload_n (q := 11) (gDec iX6_set_ok 6 rfl) rfl rfl rfl ?_
  refine go_geti (q := 14) fX6_65 (gDec iX6_set_ok 7 rfl) rfl (by decide) rfl ?_
  refine go_iadd (q := 15) (gDec iX6_set_ok 8 rfl) rfl ?_
  refine go_puti (q := 18) fX6_39 gft6 (gDec iX6_set_ok 9 rfl) rfl (by decide) rfl rfl rfl rfl ?_
  refine go_iconst (v := 0) (q := 19) (gDec iX6_set_ok 10 rfl) (by decide) rfl ?_
  refine go_istore_n (q := 20) (gDec iX6_set_ok 11 rfl) rfl (by decide) rfl ?_
  refine go_iconst (v := 0) (q := 21) (gDec iX6_set_ok 12 rfl) (by decide) rfl ?_
  refine go_istore_n (q := 22) (gDec iX6_set_ok 13 rfl) rfl (by decide) rfl ?_
  refine go_sub (L' := [(0, .ref (κ.2.1 + 363)), (1, .ref (κ.2.1 + 1)), (2, .int ((0 : Int32), gPut σ 363 7 (σ.1 1 4 + σ.1 1 5 + σ.1 1 4)).1), (3, .int (nI 0))]) ⟨rfl, rfl, rfl, rfl, trivial⟩ ?_
  refine lpX6_set (hD0.dw hW) hP0 (gPl_ σ) 0 ((0 : Int32), gPut σ 363 7 (σ.1 1 4 + σ.1 1 5 + σ.1 1 4)) (by omega) ⟨gEqD.rf _, rfl, rfl⟩ ?_
  exact go_return (gDec iX6_set_ok 75 rfl) rfl rfl rfl (by decide)
