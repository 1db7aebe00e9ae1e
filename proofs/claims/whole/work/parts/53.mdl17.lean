/-- the first i ints of the glyph n are 0 -/
def gZi (σ : gST) (n i : Nat) : gST := (gSA σ.1 377 (fun x => if 196 + 96 * n ≤ x ∧ x < 196 + 96 * n + i then 0 else σ.1 377 x), σ.2)
theorem gZi_at (σ : gST) (n i x : Nat) : (gZi σ n i).1 377 x = if 196 + 96 * n ≤ x ∧ x < 196 + 96 * n + i then 0 else σ.1 377 x := by
  unfold gZi
  exact congrFun (gSA_self σ.1 377 (fun x => if 196 + 96 * n ≤ x ∧ x < 196 + 96 * n + i then 0 else σ.1 377 x)) x
theorem gZi_0 (σ : gST) (n : Nat) : gZi σ n 0 = σ := by
  apply Prod.ext
  · funext k x
    show gSA σ.1 377 _ k x = _
    by_cases hk : k = 377
    · subst hk
      rw [gSA_self, if_neg (by omega)]
    · rw [gSA_ne _ _ hk]
  · rfl
theorem gZi_s (σ : gST) (n i : Nat) : gPut (gZi σ n i) 377 (196 + 96 * n + i) 0 = gZi σ n (i + 1) := by
  apply Prod.ext
  · funext k x
    rw [gPut_at]
    by_cases hk : k = 377
    · subst hk
      rw [gZi_at, gZi_at]
      by_cases hx : x = 196 + 96 * n + i
      · rw [if_pos ⟨rfl, hx⟩, if_pos (by omega)]
      · rw [if_neg (fun h9 => hx h9.2)]
        by_cases h2 : 196 + 96 * n ≤ x ∧ x < 196 + 96 * n + i
        · rw [if_pos h2, if_pos (by omega)]
        · rw [if_neg h2, if_neg (by omega)]
    · rw [if_neg (fun h9 => hk h9.1)]
      show gSA σ.1 377 _ k x = gSA σ.1 377 _ k x
      rw [gSA_ne _ _ hk, gSA_ne _ _ hk]
  · rfl
/-- a new glyph in the model's row -/
def gNw (σ : gST) (n : Nat) (c : Int32) : gST := gPut (gPut (gPut (gPut (gPut (gPut (gPut (gPut (gZi σ n 96) 377 (196 + 96 * n + 0) c) 377 (196 + 96 * n + (77 + 4 * 0)) 50) 377 (196 + 96 * n + (77 + 4 * 0 + 1)) (-1)) 377 (196 + 96 * n + (85 + 0)) (-1)) 377 (196 + 96 * n + (77 + 4 * (0 + 1))) 50) 377 (196 + 96 * n + (77 + 4 * (0 + 1) + 1)) (-1)) 377 (196 + 96 * n + (85 + (0 + 1))) (-1)) 377 0 (nI (n + 1))
theorem gNw_s (σ : gST) (n : Nat) (c : Int32) : ∀ x, (gNw σ n c).1 377 x = if x = 0 then nI (n + 1) else if ¬ (196 + 96 * n ≤ x ∧ x < 196 + 96 * n + 96) then σ.1 377 x else
    if x = 196 + 96 * n then c else if x = 196 + 96 * n + 77 then 50 else if x = 196 + 96 * n + 78 then -1 else if x = 196 + 96 * n + 85 then -1 else if x = 196 + 96 * n + 81 then 50 else if x = 196 + 96 * n + 82 then -1 else if x = 196 + 96 * n + 86 then -1 else 0 := by
  intro x
  unfold gNw
  rw [gPut_at, gPut_at, gPut_at, gPut_at, gPut_at, gPut_at, gPut_at, gPut_at, gZi_at]
  by_cases h0 : x = 0
  · rw [if_pos ⟨rfl, h0⟩, if_pos h0]
  · rw [if_neg (fun h9 => h0 h9.2), if_neg h0]
    by_cases h1 : 196 + 96 * n ≤ x ∧ x < 196 + 96 * n + 96
    · rw [if_neg (show ¬ ¬ (196 + 96 * n ≤ x ∧ x < 196 + 96 * n + 96) from fun h9 => h9 h1), if_pos h1]
      rcases (by omega : x = 196 + 96 * n ∨ x = 196 + 96 * n + 77 ∨ x = 196 + 96 * n + 78 ∨ x = 196 + 96 * n + 85 ∨ x = 196 + 96 * n + 81 ∨ x = 196 + 96 * n + 82 ∨ x = 196 + 96 * n + 86 ∨ ¬ (x = 196 + 96 * n ∨ x = 196 + 96 * n + 77 ∨ x = 196 + 96 * n + 78 ∨ x = 196 + 96 * n + 85 ∨ x = 196 + 96 * n + 81 ∨ x = 196 + 96 * n + 82 ∨ x = 196 + 96 * n + 86)) with e | e | e | e | e | e | e | e
      · rw [if_neg (by omega), if_neg (by omega), if_neg (by omega), if_neg (by omega), if_neg (by omega), if_neg (by omega), if_pos ⟨rfl, by omega⟩, if_pos (by omega)]
      · rw [if_neg (by omega), if_neg (by omega), if_neg (by omega), if_neg (by omega), if_neg (by omega), if_pos ⟨rfl, by omega⟩, if_neg (by omega), if_pos (by omega)]
      · rw [if_neg (by omega), if_neg (by omega), if_neg (by omega), if_neg (by omega), if_pos ⟨rfl, by omega⟩, if_neg (by omega), if_neg (by omega), if_pos (by omega)]
      · rw [if_neg (by omega), if_neg (by omega), if_neg (by omega), if_pos ⟨rfl, by omega⟩, if_neg (by omega), if_neg (by omega), if_neg (by omega), if_pos (by omega)]
      · rw [if_neg (by omega), if_neg (by omega), if_pos ⟨rfl, by omega⟩, if_neg (by omega), if_neg (by omega), if_neg (by omega), if_neg (by omega), if_pos (by omega)]
      · rw [if_neg (by omega), if_pos ⟨rfl, by omega⟩, if_neg (by omega), if_neg (by omega), if_neg (by omega), if_neg (by omega), if_neg (by omega), if_pos (by omega)]
      · rw [if_pos ⟨rfl, by omega⟩, if_neg (by omega), if_neg (by omega), if_neg (by omega), if_neg (by omega), if_neg (by omega), if_neg (by omega), if_pos (by omega)]
      · rw [if_neg (by omega), if_neg (by omega), if_neg (by omega), if_neg (by omega), if_neg (by omega), if_neg (by omega), if_neg (by omega), if_neg (by omega), if_neg (by omega), if_neg (by omega), if_neg (by omega), if_neg (by omega), if_neg (by omega), if_neg (by omega)]
    · rw [if_pos h1, if_neg (by omega), if_neg (by omega), if_neg (by omega), if_neg (by omega), if_neg (by omega), if_neg (by omega), if_neg (by omega), if_neg h1]
theorem gNw_o (σ : gST) (n : Nat) (c : Int32) {k : Nat} (hk : k ≠ 377) : (gNw σ n c).1 k = σ.1 k := by
  unfold gNw gZi
  rw [gPut_ne _ _ _ hk, gPut_ne _ _ _ hk, gPut_ne _ _ _ hk, gPut_ne _ _ _ hk, gPut_ne _ _ _ hk, gPut_ne _ _ _ hk, gPut_ne _ _ _ hk, gPut_ne _ _ _ hk]
  exact gSA_ne _ _ hk

set_option maxHeartbeats 4000000 in
set_option maxRecDepth 100000 in
theorem lpX11_new {κ : gK} {Z : gZ} {σ : gST} {n : Nat} {c : Int32} (hn : n < 24) (h : Go κ mX11_newGlyph (gRm 1 0) Z 32 [(0, .ref (κ.2.1 + 376)), (1, .int c), (2, .int (nI n)), (3, .int (nI 96))] [] (gZi σ n 96) 0) : ∀ (m i : Nat), i + m = 96 → Go κ mX11_newGlyph (gRm 1 0) Z 9 [(0, .ref (κ.2.1 + 376)), (1, .int c), (2, .int (nI n)), (3, .int (nI i))] [] (gZi σ n i) 0 := by
  intro m
  induction m with
  | zero =>
    intro i hi
    have hiN : i = 96 := by omega
    subst hiN
    refine go_iload_n (q := 10) (gDec iX11_newGlyph_ok 7 rfl) rfl rfl rfl ?_
    refine go_bipush (v := nI 96) (q := 12) (gDec iX11_newGlyph_ok 8 rfl) (by decide) rfl ?_
    refine go_icmp_ge (t := 32) (q := 15) (gDec iX11_newGlyph_ok 9 rfl) (by decide) rfl (fun c12 => ?_) (fun c12 => False.elim (c12 (Int32.le_refl _)))
    exact h
  | succ m ih =>
    intro i hi
    refine go_iload_n (q := 10) (gDec iX11_newGlyph_ok 7 rfl) rfl rfl rfl ?_
    refine go_bipush (v := nI 96) (q := 12) (gDec iX11_newGlyph_ok 8 rfl) (by decide) rfl ?_
    refine go_icmp_ge (t := 32) (q := 15) (gDec iX11_newGlyph_ok 9 rfl) (by decide) rfl (fun c12 => False.elim (nI_ge (a := i) (b := 96) (by omega) (by decide) c12)) (fun c12 => ?_)
    refine go_aload_n (q := 16) (gDec iX11_newGlyph_ok 10 rfl) rfl rfl rfl ?_
    refine go_getr (r' := 377) (q := 19) fX11_9 (gDec iX11_newGlyph_ok 11 rfl) rfl (by decide) rfl ?_
    refine go_iload_n (q := 20) (gDec iX11_newGlyph_ok 12 rfl) rfl rfl rfl ?_
    refine go_iload_n (q := 21) (gDec iX11_newGlyph_ok 13 rfl) rfl rfl rfl ?_
    refine go_callS (n2 := 0) (q := 24) kX11_61 (ctX11_at (g := n) (w := i)) (gDec iX11_newGlyph_ok 14 rfl) rfl rfl (Nat.le_of_ble_eq_true rfl) rfl (gFit_rm (by decide) (by decide)) rfl ?_
    refine go_iconst (v := 0) (q := 25) (gDec iX11_newGlyph_ok 15 rfl) (by decide) rfl ?_
    refine go_iastN (q := 26) (gDec iX11_newGlyph_ok 16 rfl) rfl (by decide) (by omega) (by decide) rfl ?_
    refine go_w (gZi_s σ n i) ?_
    refine go_iinc (v := nI (i + 1)) (q := 29) (gDec iX11_newGlyph_ok 17 rfl) rfl (nI_1 _) (by decide) rfl ?_
    refine go_goto (t := 9) (gDec iX11_newGlyph_ok 18 rfl) (by decide) ?_
    refine go_sub (L' := [(0, .ref (κ.2.1 + 376)), (1, .int c), (2, .int (nI n)), (3, .int (nI (i + 1)))]) ⟨rfl, rfl, rfl, rfl, trivial⟩ ?_
    exact ih (i + 1) (by omega)

set_option maxHeartbeats 4000000 in
set_option maxRecDepth 100000 in
theorem ctX11_newGlyph {κ : gK} {σ : gST} {n : Nat} {c : Int32} (hs0 : σ.1 377 0 = nI n) (hn : n < 24) : gCt κ mX11_newGlyph 1 [.ref (κ.2.1 + 376), .int c] σ (rI (nI n)) (gNw σ n c) 0 := by
  refine ct_of (by decide +kernel) rfl (Nat.le_of_ble_eq_true rfl) rfl ?_
  refine go_aload_n (q := 1) (gDec iX11_newGlyph_ok 0 rfl) rfl rfl rfl ?_
  refine go_getr (r' := 377) (q := 4) fX11_9 (gDec iX11_newGlyph_ok 1 rfl) rfl (by decide) rfl ?_
  refine go_iconst (v := nI 0) (q := 5) (gDec iX11_newGlyph_ok 2 rfl) (by decide) rfl ?_
  refine go_ialdN (q := 6) (gDec iX11_newGlyph_ok 3 rfl) rfl (by decide) (j := 0) (by omega) (by decide) rfl ?_
  refine go_top (v' := nI n) (hs0) ?_
  refine go_istore_n (q := 7) (gDec iX11_newGlyph_ok 4 rfl) rfl (by decide) rfl ?_
  refine go_iconst (v := nI 0) (q := 8) (gDec iX11_newGlyph_ok 5 rfl) (by decide) rfl ?_
  refine go_istore_n (q := 9) (gDec iX11_newGlyph_ok 6 rfl) rfl (by decide) rfl ?_
  refine go_w (gZi_0 σ n).symm ?_
  refine go_sub (L' := [(0, .ref (κ.2.1 + 376)), (1, .int c), (2, .int (nI n)), (3, .int (nI 0))]) ⟨rfl, rfl, rfl, rfl, trivial⟩ ?_
  refine lpX11_new hn ?_ 96 0 (by omega)
  refine go_aload_n (q := 33) (gDec iX11_newGlyph_ok 19 rfl) rfl rfl rfl ?_
  refine go_getr (r' := 377) (q := 36) fX11_9 (gDec iX11_newGlyph_ok 20 rfl) rfl (by decide) rfl ?_
  refine go_iload_n (q := 37) (gDec iX11_newGlyph_ok 21 rfl) rfl rfl rfl ?_
  refine go_iconst (v := nI 0) (q := 38) (gDec iX11_newGlyph_ok 22 rfl) (by decide) rfl ?_
  refine go_callS (n2 := 0) (q := 41) kX11_61 (ctX11_at (g := n) (w := 0)) (gDec iX11_newGlyph_ok 23 rfl) rfl rfl (Nat.le_of_ble_eq_true rfl) rfl (gFit_rm (by decide) (by decide)) rfl ?_
  refine go_iload_n (q := 42) (gDec iX11_newGlyph_ok 24 rfl) rfl rfl rfl ?_
  refine go_iastN (q := 43) (gDec iX11_newGlyph_ok 25 rfl) rfl (by decide) (by omega) (by decide) rfl ?_
  refine go_iconst (v := nI 0) (q := 44) (gDec iX11_newGlyph_ok 26 rfl) (by decide) rfl ?_
  refine go_istore_n (q := 45) (gDec iX11_newGlyph_ok 27 rfl) rfl (by decide) rfl ?_
  refine go_iload_n (q := 46) (gDec iX11_newGlyph_ok 28 rfl) rfl rfl rfl ?_
  refine go_iconst (v := nI 2) (q := 47) (gDec iX11_newGlyph_ok 29 rfl) (by decide) rfl ?_
  refine go_icmp_ge (t := 105) (q := 50) (gDec iX11_newGlyph_ok 30 rfl) (by decide) rfl (fun c47 => False.elim (absurd c47 (by decide))) (fun c47 => ?_)
  refine go_aload_n (q := 51) (gDec iX11_newGlyph_ok 31 rfl) rfl rfl rfl ?_
  refine go_getr (r' := 377) (q := 54) fX11_9 (gDec iX11_newGlyph_ok 32 rfl) rfl (by decide) rfl ?_
  refine go_iload_n (q := 55) (gDec iX11_newGlyph_ok 33 rfl) rfl rfl rfl ?_
  refine go_bipush (v := nI 77) (q := 57) (gDec iX11_newGlyph_ok 34 rfl) (by decide) rfl ?_
  refine go_iconst (v := nI 4) (q := 58) (gDec iX11_newGlyph_ok 35 rfl) (by decide) rfl ?_
  refine go_iload_n (q := 59) (gDec iX11_newGlyph_ok 36 rfl) rfl rfl rfl ?_
  refine go_imulN (c := 4 * 0) (q := 60) (gDec iX11_newGlyph_ok 37 rfl) rfl rfl ?_
  refine go_iaddN (c := 77 + (4 * 0)) (q := 61) (gDec iX11_newGlyph_ok 38 rfl) rfl rfl ?_
  refine go_callS (n2 := 0) (q := 64) kX11_61 (ctX11_at (g := n) (w := 77 + (4 * 0))) (gDec iX11_newGlyph_ok 39 rfl) rfl rfl (Nat.le_of_ble_eq_true rfl) rfl (gFit_rm (by decide) (by decide)) rfl ?_
  refine go_bipush (v := 50) (q := 66) (gDec iX11_newGlyph_ok 40 rfl) (by decide) rfl ?_
  refine go_iastN (q := 67) (gDec iX11_newGlyph_ok 41 rfl) rfl (by decide) (by omega) (by decide) rfl ?_
  refine go_aload_n (q := 68) (gDec iX11_newGlyph_ok 42 rfl) rfl rfl rfl ?_
  refine go_getr (r' := 377) (q := 71) fX11_9 (gDec iX11_newGlyph_ok 43 rfl) rfl (by decide) rfl ?_
  refine go_iload_n (q := 72) (gDec iX11_newGlyph_ok 44 rfl) rfl rfl rfl ?_
  refine go_bipush (v := nI 77) (q := 74) (gDec iX11_newGlyph_ok 45 rfl) (by decide) rfl ?_
  refine go_iconst (v := nI 4) (q := 75) (gDec iX11_newGlyph_ok 46 rfl) (by decide) rfl ?_
  refine go_iload_n (q := 76) (gDec iX11_newGlyph_ok 47 rfl) rfl rfl rfl ?_
  refine go_imulN (c := 4 * 0) (q := 77) (gDec iX11_newGlyph_ok 48 rfl) rfl rfl ?_
  refine go_iaddN (c := 77 + (4 * 0)) (q := 78) (gDec iX11_newGlyph_ok 49 rfl) rfl rfl ?_
  refine go_iconst (v := nI 1) (q := 79) (gDec iX11_newGlyph_ok 50 rfl) (by decide) rfl ?_
  refine go_iaddN (c := 77 + (4 * 0) + 1) (q := 80) (gDec iX11_newGlyph_ok 51 rfl) rfl rfl ?_
  refine go_callS (n2 := 0) (q := 83) kX11_61 (ctX11_at (g := n) (w := 77 + (4 * 0) + 1)) (gDec iX11_newGlyph_ok 52 rfl) rfl rfl (Nat.le_of_ble_eq_true rfl) rfl (gFit_rm (by decide) (by decide)) rfl ?_
  refine go_iconst (v := (-1)) (q := 84) (gDec iX11_newGlyph_ok 53 rfl) (by decide) rfl ?_
  refine go_iastN (q := 85) (gDec iX11_newGlyph_ok 54 rfl) rfl (by decide) (by omega) (by decide) rfl ?_
  refine go_aload_n (q := 86) (gDec iX11_newGlyph_ok 55 rfl) rfl rfl rfl ?_
  refine go_getr (r' := 377) (q := 89) fX11_9 (gDec iX11_newGlyph_ok 56 rfl) rfl (by decide) rfl ?_
  refine go_iload_n (q := 90) (gDec iX11_newGlyph_ok 57 rfl) rfl rfl rfl ?_
  refine go_bipush (v := nI 85) (q := 92) (gDec iX11_newGlyph_ok 58 rfl) (by decide) rfl ?_
  refine go_iload_n (q := 93) (gDec iX11_newGlyph_ok 59 rfl) rfl rfl rfl ?_
  refine go_iaddN (c := 85 + 0) (q := 94) (gDec iX11_newGlyph_ok 60 rfl) rfl rfl ?_
  refine go_callS (n2 := 0) (q := 97) kX11_61 (ctX11_at (g := n) (w := 85 + 0)) (gDec iX11_newGlyph_ok 61 rfl) rfl rfl (Nat.le_of_ble_eq_true rfl) rfl (gFit_rm (by decide) (by decide)) rfl ?_
  refine go_iconst (v := (-1)) (q := 98) (gDec iX11_newGlyph_ok 62 rfl) (by decide) rfl ?_
  refine go_iastN (q := 99) (gDec iX11_newGlyph_ok 63 rfl) rfl (by decide) (by omega) (by decide) rfl ?_
  refine go_iinc (v := nI (0 + 1)) (q := 102) (gDec iX11_newGlyph_ok 64 rfl) rfl (nI_1 _) (by decide) rfl ?_
  refine go_goto (t := 45) (gDec iX11_newGlyph_ok 65 rfl) (by decide) ?_
  refine go_iload_n (q := 46) (gDec iX11_newGlyph_ok 28 rfl) rfl rfl rfl ?_
  refine go_iconst (v := nI 2) (q := 47) (gDec iX11_newGlyph_ok 29 rfl) (by decide) rfl ?_
  refine go_icmp_ge (t := 105) (q := 50) (gDec iX11_newGlyph_ok 30 rfl) (by decide) rfl (fun c47 => False.elim (absurd c47 (by decide))) (fun c47 => ?_)
  refine go_aload_n (q := 51) (gDec iX11_newGlyph_ok 31 rfl) rfl rfl rfl ?_
  refine go_getr (r' := 377) (q := 54) fX11_9 (gDec iX11_newGlyph_ok 32 rfl) rfl (by decide) rfl ?_
  refine go_iload_n (q := 55) (gDec iX11_newGlyph_ok 33 rfl) rfl rfl rfl ?_
  refine go_bipush (v := nI 77) (q := 57) (gDec iX11_newGlyph_ok 34 rfl) (by decide) rfl ?_
  refine go_iconst (v := nI 4) (q := 58) (gDec iX11_newGlyph_ok 35 rfl) (by decide) rfl ?_
  refine go_iload_n (q := 59) (gDec iX11_newGlyph_ok 36 rfl) rfl rfl rfl ?_
  refine go_imulN (c := 4 * (0 + 1)) (q := 60) (gDec iX11_newGlyph_ok 37 rfl) rfl rfl ?_
  refine go_iaddN (c := 77 + (4 * (0 + 1))) (q := 61) (gDec iX11_newGlyph_ok 38 rfl) rfl rfl ?_
  refine go_callS (n2 := 0) (q := 64) kX11_61 (ctX11_at (g := n) (w := 77 + (4 * (0 + 1)))) (gDec iX11_newGlyph_ok 39 rfl) rfl rfl (Nat.le_of_ble_eq_true rfl) rfl (gFit_rm (by decide) (by decide)) rfl ?_
  refine go_bipush (v := 50) (q := 66) (gDec iX11_newGlyph_ok 40 rfl) (by decide) rfl ?_
  refine go_iastN (q := 67) (gDec iX11_newGlyph_ok 41 rfl) rfl (by decide) (by omega) (by decide) rfl ?_
  refine go_aload_n (q := 68) (gDec iX11_newGlyph_ok 42 rfl) rfl rfl rfl ?_
  refine go_getr (r' := 377) (q := 71) fX11_9 (gDec iX11_newGlyph_ok 43 rfl) rfl (by decide) rfl ?_
  refine go_iload_n (q := 72) (gDec iX11_newGlyph_ok 44 rfl) rfl rfl rfl ?_
  refine go_bipush (v := nI 77) (q := 74) (gDec iX11_newGlyph_ok 45 rfl) (by decide) rfl ?_
  refine go_iconst (v := nI 4) (q := 75) (gDec iX11_newGlyph_ok 46 rfl) (by decide) rfl ?_
  refine go_iload_n (q := 76) (gDec iX11_newGlyph_ok 47 rfl) rfl rfl rfl ?_
  refine go_imulN (c := 4 * (0 + 1)) (q := 77) (gDec iX11_newGlyph_ok 48 rfl) rfl rfl ?_
  refine go_iaddN (c := 77 + (4 * (0 + 1))) (q := 78) (gDec iX11_newGlyph_ok 49 rfl) rfl rfl ?_
  refine go_iconst (v := nI 1) (q := 79) (gDec iX11_newGlyph_ok 50 rfl) (by decide) rfl ?_
  refine go_iaddN (c := 77 + (4 * (0 + 1)) + 1) (q := 80) (gDec iX11_newGlyph_ok 51 rfl) rfl rfl ?_
  refine go_callS (n2 := 0) (q := 83) kX11_61 (ctX11_at (g := n) (w := 77 + (4 * (0 + 1)) + 1)) (gDec iX11_newGlyph_ok 52 rfl) rfl rfl (Nat.le_of_ble_eq_true rfl) rfl (gFit_rm (by decide) (by decide)) rfl ?_
  refine go_iconst (v := (-1)) (q := 84) (gDec iX11_newGlyph_ok 53 rfl) (by decide) rfl ?_
  refine go_iastN (q := 85) (gDec iX11_newGlyph_ok 54 rfl) rfl (by decide) (by omega) (by decide) rfl ?_
  refine go_aload_n (q := 86) (gDec iX11_newGlyph_ok 55 rfl) rfl rfl rfl ?_
  refine go_getr (r' := 377) (q := 89) fX11_9 (gDec iX11_newGlyph_ok 56 rfl) rfl (by decide) rfl ?_
  refine go_iload_n (q := 90) (gDec iX11_newGlyph_ok 57 rfl) rfl rfl rfl ?_
  refine go_bipush (v := nI 85) (q := 92) (gDec iX11_newGlyph_ok 58 rfl) (by decide) rfl ?_
  refine go_iload_n (q := 93) (gDec iX11_newGlyph_ok 59 rfl) rfl rfl rfl ?_
  refine go_iaddN (c := 85 + (0 + 1)) (q := 94) (gDec iX11_newGlyph_ok 60 rfl) rfl rfl ?_
  refine go_callS (n2 := 0) (q := 97) kX11_61 (ctX11_at (g := n) (w := 85 + (0 + 1))) (gDec iX11_newGlyph_ok 61 rfl) rfl rfl (Nat.le_of_ble_eq_true rfl) rfl (gFit_rm (by decide) (by decide)) rfl ?_
  refine go_iconst (v := (-1)) (q := 98) (gDec iX11_newGlyph_ok 62 rfl) (by decide) rfl ?_
  refine go_iastN (q := 99) (gDec iX11_newGlyph_ok 63 rfl) rfl (by decide) (by omega) (by decide) rfl ?_
  refine go_iinc (v := nI (0 + 1 + 1)) (q := 102) (gDec iX11_newGlyph_ok 64 rfl) rfl (nI_1 _) (by decide) rfl ?_
  refine go_goto (t := 45) (gDec iX11_newGlyph_ok 65 rfl) (by decide) ?_
  refine go_iload_n (q := 46) (gDec iX11_newGlyph_ok 28 rfl) rfl rfl rfl ?_
  refine go_iconst (v := nI 2) (q := 47) (gDec iX11_newGlyph_ok 29 rfl) (by decide) rfl ?_
  refine go_icmp_ge (t := 105) (q := 50) (gDec iX11_newGlyph_ok 30 rfl) (by decide) rfl (fun c47 => ?_) (fun c47 => False.elim (c47 (by decide)))
  refine go_aload_n (q := 106) (gDec iX11_newGlyph_ok 66 rfl) rfl rfl rfl ?_
  refine go_getr (r' := 377) (q := 109) fX11_9 (gDec iX11_newGlyph_ok 67 rfl) rfl (by decide) rfl ?_
  refine go_iconst (v := nI 0) (q := 110) (gDec iX11_newGlyph_ok 68 rfl) (by decide) rfl ?_
  refine go_dup2 (q := 111) (gDec iX11_newGlyph_ok 69 rfl) rfl rfl rfl ?_
  refine go_ialdN (q := 112) (gDec iX11_newGlyph_ok 70 rfl) rfl (by decide) (by omega) (by decide) rfl ?_
  refine go_top (v' := nI n) (by rw [gPut_at, if_neg (by omega), gPut_at, if_neg (by omega), gPut_at, if_neg (by omega), gPut_at, if_neg (by omega), gPut_at, if_neg (by omega), gPut_at, if_neg (by omega), gPut_at, if_neg (by omega), gZi_at, if_neg (by omega)]; exact hs0) ?_
  refine go_iconst (v := nI 1) (q := 113) (gDec iX11_newGlyph_ok 71 rfl) (by decide) rfl ?_
  refine go_iaddN (c := n + 1) (q := 114) (gDec iX11_newGlyph_ok 72 rfl) rfl rfl ?_
  refine go_iastN (q := 115) (gDec iX11_newGlyph_ok 73 rfl) rfl (by decide) (by omega) (by decide) rfl ?_
  refine go_iload_n (q := 116) (gDec iX11_newGlyph_ok 74 rfl) rfl rfl rfl ?_
  exact go_ireturn (gDec iX11_newGlyph_ok 75 rfl) rfl rfl rfl rfl (by decide)
theorem mt_new {ρ : gST} {s s' : Nat → Int32} {n : Nat} {c : Int32} (hC : gCI ρ) (hM : gMR ρ s) (hn : n = gNg ρ) (hn24 : n < 24) (hc : 33 ≤ c.toInt ∧ c.toInt ≤ 126) (hs : ∀ x, s' x = if x = 0 then nI (n + 1) else if ¬ (196 + 96 * n ≤ x ∧ x < 196 + 96 * n + 96) then s x else
    if x = 196 + 96 * n then c else if x = 196 + 96 * n + 77 then 50 else if x = 196 + 96 * n + 78 then -1 else if x = 196 + 96 * n + 85 then -1 else if x = 196 + 96 * n + 81 then 50 else if x = 196 + 96 * n + 82 then -1 else if x = 196 + 96 * n + 86 then -1 else 0) :
    gCI (gPut (gPut ρ 4 n c) 2 5 (nI (n + 1))) ∧ gMR (gPut (gPut ρ 4 n c) 2 5 (nI (n + 1))) s' := by
  have hW := hC.dw
  obtain ⟨τ', hτ⟩ : ∃ τ', τ' = gPut (gPut ρ 4 n c) 2 5 (nI (n + 1)) := ⟨_, rfl⟩
  have ho : ∀ k, k ≠ 2 → k ≠ 4 → τ'.1 k = ρ.1 k := fun k q1 q2 => by rw [hτ, gPut_ne _ _ _ q1, gPut_ne _ _ _ q2]
  have e4 : ∀ a, τ'.1 4 a = if a = n then c else ρ.1 4 a := fun a => by rw [hτ, gPut_ne _ _ _ (by decide), gPut_s, uN]
  have e2 : τ'.1 2 5 = nI (n + 1) := by rw [hτ, gPut_at, if_pos ⟨rfl, rfl⟩]
  rw [← hτ]
  have eng : gNg τ' = n + 1 := by unfold gNg; rw [e2]; exact nA_nI (by omega)
  have enc : ∀ g, gNc τ' g = gNc ρ g := fun g => by unfold gNc; rw [ho 6 (by decide) (by decide)]
  have enp : ∀ g c, gNp τ' g c = gNp ρ g c := fun g c => by unfold gNp; rw [ho 8 (by decide) (by decide)]
  have ens : ∀ g, gNs τ' g = gNs ρ g := fun g => by unfold gNs; rw [ho 31 (by decide) (by decide)]
  have ele : gLe τ' = gLe ρ := by funext a; unfold gLe; rw [ho 17 (by decide) (by decide)]
  obtain ⟨g1, g2, g3, g4, g5⟩ := hC.gw.2 n (by omega) hn24
  have enc0 : gNc ρ n = 0 := by unfold gNc; rw [g1]; decide
  have ens0 : gNs ρ n = 0 := by unfold gNs; rw [g2]; decide
  have hlo : ∀ x, x ≠ 0 → ¬ (196 + 96 * n ≤ x ∧ x < 196 + 96 * n + 96) → s' x = s x := fun x q1 q2 => by rw [hs, if_neg q1, if_pos q2]
  have hnew : ∀ d, d < 96 → s' (196 + 96 * n + d) = if d = 0 then c else if d = 77 then 50 else if d = 78 then -1 else if d = 85 then -1 else if d = 81 then 50 else if d = 82 then -1 else if d = 86 then -1 else 0 := by
    intro d hd
    rw [hs, if_neg (by omega), if_neg (by omega)]
    simp only [show ∀ e, (196 + 96 * n + d = 196 + 96 * n + e) = (d = e) from fun e => propext (by omega), show (196 + 96 * n + d = 196 + 96 * n) = (d = 0) from propext (by omega)]
  refine ⟨⟨⟨?_, ?_, ?_, ?_, ?_, ?_, ?_⟩, ⟨?_, ?_, ?_⟩, ⟨?_, ?_⟩, ⟨?_, ?_⟩, ?_, ?_⟩, ⟨⟨?_, ?_, ?_, ?_⟩, fun k hk => ?_, ?_, fun g hg => ?_⟩⟩
  · rw [e2, nI_toInt (by omega)]; omega
  · rw [ho 6 (by decide) (by decide)]; exact hW.2.1
  · rw [ho 8 (by decide) (by decide)]; exact hW.2.2.1
  · rw [ho 17 (by decide) (by decide)]; exact hW.2.2.2.1
  · rw [ho 22 (by decide) (by decide)]; exact hW.2.2.2.2.1
  · rw [ho 24 (by decide) (by decide)]; exact hW.2.2.2.2.2.1
  · rw [ho 31 (by decide) (by decide)]; exact hW.2.2.2.2.2.2
  · rw [eng, ele]
    intro a b ha hb
    rcases Nat.lt_or_ge a (2 * gNg ρ) with q | q
    · have := hC.lw.1 a b q hb; omega
    · rw [hC.lw.2.2 a q (by omega)] at hb; cases hb
  · rw [eng, ele]
    intro a ha
    rcases Nat.lt_or_ge a (2 * gNg ρ) with q | q
    · exact hC.lw.2.1 a q
    · intro b hb
      rw [hC.lw.2.2 a q (by omega)] at hb; cases hb
  · rw [eng, ele]
    intro a ha ha2
    exact hC.lw.2.2 a (by omega) ha2
  · rw [eng]
    intro g c0 hg hc0
    rw [enc] at hc0
    rw [enp]
    rcases Nat.lt_or_ge g n with q | q
    · exact hC.po.1 g c0 (by omega) hc0
    · have : g = n := by omega
      subst this
      omega
  · rw [eng]
    intro g c0 p hg hc0 hp
    rw [enc] at hc0
    rw [enp] at hp
    rw [ho 10 (by decide) (by decide), ho 12 (by decide) (by decide)]
    rcases Nat.lt_or_ge g n with q | q
    · exact hC.po.2 g c0 p (by omega) hc0 hp
    · have : g = n := by omega
      subst this
      omega
  · rw [eng]
    intro g hg
    rw [e4]
    split
    · exact hc
    · exact hC.gw.1 g (by omega)
  · rw [eng, ho 6 (by decide) (by decide), ho 31 (by decide) (by decide), ho 22 (by decide) (by decide), ho 24 (by decide) (by decide), ho 15 (by decide) (by decide)]
    intro g hg hg2
    exact hC.gw.2 g (by omega) hg2
  · intro g hg
    rw [eng] at hg
    rw [ens, ho 33 (by decide) (by decide), ho 35 (by decide) (by decide)]
    rcases Nat.lt_or_ge g n with q | q
    · exact hC.sw g (by omega)
    · have : g = n := by omega
      subst this
      rw [ens0]
      exact ⟨fun k hk => absurd hk (Nat.not_lt_zero k), fun k hk => absurd hk (Nat.not_lt_zero _)⟩
  · exact hC.kw.c (ho 26 (by decide) (by decide)) (ho 28 (by decide) (by decide)) (ho 20 (by decide) (by decide)) (ho 1 (by decide) (by decide))
  · rw [hs, if_pos rfl, e2]
  · rw [hlo 1 (by decide) (by omega), ho 1 (by decide) (by decide)]; exact hM.1.2.1
  · rw [hlo 2 (by decide) (by omega), ho 1 (by decide) (by decide)]; exact hM.1.2.2.1
  · rw [hlo 3 (by decide) (by omega), ho 20 (by decide) (by decide)]; exact hM.pn
  · rw [hlo _ (by omega) (by omega), hlo _ (by omega) (by omega), ho 26 (by decide) (by decide)]; exact hM.2.1 k hk
  · exact hM.mp.c (by rw [ho 20 (by decide) (by decide)]) (ho 28 (by decide) (by decide)) (fun x q1 q2 => hlo x (by omega) (by omega))
  · rw [eng] at hg
    rcases Nat.lt_or_ge g n with q | q
    · exact (hM.2.2.2 g (by omega)).same hW (by omega) (fun x q1 q2 => hlo x (by omega) (by omega)) (by rw [e4, if_neg (by omega)]) (congrFun (ho 6 (by decide) (by decide)) _) (fun _ _ => congrFun (ho 8 (by decide) (by decide)) _) (fun _ _ => congrFun (ho 10 (by decide) (by decide)) _) (fun _ _ => congrFun (ho 12 (by decide) (by decide)) _) (fun _ _ => congrFun (ho 15 (by decide) (by decide)) _) (fun _ _ => congrFun (ho 17 (by decide) (by decide)) _) (fun _ _ => congrFun (ho 19 (by decide) (by decide)) _) (congrFun (ho 22 (by decide) (by decide)) _) (congrFun (ho 24 (by decide) (by decide)) _) (congrFun (ho 31 (by decide) (by decide)) _) (fun _ _ => congrFun (ho 33 (by decide) (by decide)) _) (fun _ _ => congrFun (ho 35 (by decide) (by decide)) _)
    · have hgn : g = n := by omega
      subst hgn
      refine ⟨⟨?_, ?_⟩, ?_, ?_, ?_, ⟨?_, ?_, ?_⟩, ?_⟩
      · rw [hnew 0 (by decide), if_pos rfl, e4, if_pos rfl]
      · rw [hnew 1 (by decide), ho 6 (by decide) (by decide), g1]; rfl
      · rw [enc, enc0]
        intro c0 h9
        exact absurd h9 (Nat.not_lt_zero _)
      · rw [enc, enc0]
        intro c0 p h9
        exact absurd h9 (Nat.not_lt_zero _)
      · intro t ht
        have hl : gLe ρ (g * 2 + t) = none := hC.lw.2.2 _ (by omega) (by omega)
        rw [ele, hl, ho 15 (by decide) (by decide), g5 t ht]
        refine ⟨?_, ?_, fun b hb => by cases hb⟩
        · rw [hnew _ (by omega)]
          rcases (by omega : t = 0 ∨ t = 1) with e | e <;> subst e <;> rfl
        · rw [hnew _ (by omega)]
          rcases (by omega : t = 0 ∨ t = 1) with e | e <;> subst e <;> rfl
      · rw [hnew 85 (by decide), ho 22 (by decide) (by decide), g3]; rfl
      · rw [hnew 86 (by decide), ho 24 (by decide) (by decide), g4]; rfl
      · rw [hnew 87 (by decide), ho 31 (by decide) (by decide), g2]; rfl
      · rw [ens, ens0]
        intro k h9
        exact absurd h9 (Nat.not_lt_zero _)

set_option maxHeartbeats 4000000 in
set_option maxRecDepth 100000 in
theorem okw_addGlyph {κ : gK} {σ τ : gST} {c : Int32} (h : gAll τ σ) (h1 : 33 ≤ c.toInt ∧ c.toInt ≤ 126) (h2 : gNg τ < 24) (h3 : gFind (τ.1 4) c 0 (gNg τ) = -1) : gCt κ mX11_addGlyph 9 [.ref (κ.2.1 + 376), .int c] σ (rI (nI (gNg τ))) (gNw (gChg (gPut σ 376 5 0) (nA (τ.1 71 2))) (gNg τ) c) 0 := by
  have hC := h.ci
  have hM := h.mr
  have hW := hC.dw
  have h24 := hW.ng24
  refine ct_of (by decide +kernel) rfl (Nat.le_of_ble_eq_true rfl) rfl ?_
  refine go_aload_n (q := 1) (gDec iX11_addGlyph_ok 0 rfl) rfl rfl rfl ?_
  refine go_iload_n (q := 2) (gDec iX11_addGlyph_ok 1 rfl) rfl rfl rfl ?_
  refine go_i2l (q := 3) (gDec iX11_addGlyph_ok 2 rfl) rfl ?_
  refine go_bipush (v := nI 33) (q := 5) (gDec iX11_addGlyph_ok 3 rfl) (by decide) rfl ?_
  refine go_bipush (v := nI 126) (q := 7) (gDec iX11_addGlyph_ok 4 rfl) (by decide) rfl ?_
  refine go_callS (n2 := 0) (q := 10) kX11_57 ctX11_in (gDec iX11_addGlyph_ok 5 rfl) rfl rfl (Nat.le_of_ble_eq_true rfl) rfl (gFit_rm (by decide) (by decide)) rfl ?_
  refine go_top (v' := 1) (gWi_t (by (try rw [i2l_toInt]); exact h1)) ?_
  refine go_if_ne (t := 17) (q := 13) (gDec iX11_addGlyph_ok 6 rfl) (by decide) rfl (fun c10 => ?_) (fun c10 => False.elim (absurd c10 (by decide)))
  refine go_aload_n (q := 18) (gDec iX11_addGlyph_ok 9 rfl) rfl rfl rfl ?_
  refine go_getr (r' := 377) (q := 21) fX11_9 (gDec iX11_addGlyph_ok 10 rfl) rfl (by decide) rfl ?_
  refine go_iconst (v := nI 0) (q := 22) (gDec iX11_addGlyph_ok 11 rfl) (by decide) rfl ?_
  refine go_top (v' := nI 0) (rfl) ?_
  refine go_ialdN (q := 23) (gDec iX11_addGlyph_ok 12 rfl) rfl (by decide) (by omega) (by decide) rfl ?_
  refine go_top (v' := nI (gNg τ)) (hM.ng hW) ?_
  refine go_bipush (v := nI 24) (q := 25) (gDec iX11_addGlyph_ok 13 rfl) (by decide) rfl ?_
  refine go_icmp_eq (t := 36) (q := 28) (gDec iX11_addGlyph_ok 14 rfl) (by decide) rfl (fun c25 => False.elim (absurd ((nI_eq (a := gNg τ) (b := 24) (by omega) (by decide)).mp c25) (by omega))) (fun c25 => ?_)
  refine go_aload_n (q := 29) (gDec iX11_addGlyph_ok 15 rfl) rfl rfl rfl ?_
  refine go_iload_n (q := 30) (gDec iX11_addGlyph_ok 16 rfl) rfl rfl rfl ?_
  refine go_callV (n2 := 0) (q := 33) kX11_85 (ctX11_withCode (τ := τ) hW hM) (gDec iX11_addGlyph_ok 17 rfl) rfl rfl (by decide) rfl rfl rfl (Nat.le_of_ble_eq_true rfl) rfl (gFit_rm (by decide) (by decide)) rfl ?_
  refine go_top (v' := -1) (h3) ?_
  refine go_if_lt (t := 40) (q := 36) (gDec iX11_addGlyph_ok 18 rfl) (by decide) rfl (fun c33 => ?_) (fun c33 => False.elim (c33 (by decide)))
  refine go_iconst (v := nI 0) (q := 41) (gDec iX11_addGlyph_ok 21 rfl) (by decide) rfl ?_
  refine go_puti (q := 44) fX11_54 gft11 (gDec iX11_addGlyph_ok 22 rfl) rfl (by decide) rfl rfl rfl rfl ?_
  refine go_aload_n (q := 45) (gDec iX11_addGlyph_ok 23 rfl) rfl rfl rfl ?_
  refine go_geti (q := 48) fX11_54 (gDec iX11_addGlyph_ok 24 rfl) rfl (by decide) rfl ?_
  refine go_top (v' := nI 0) rfl ?_
  refine go_if_le (t := 53) (q := 51) (gDec iX11_addGlyph_ok 25 rfl) (by decide) rfl (fun c48 => ?_) (fun c48 => False.elim (c48 (by decide)))
  refine go_aload_n (q := 54) (gDec iX11_addGlyph_ok 28 rfl) rfl rfl rfl ?_
  refine go_callV (n2 := 0) (q := 57) kX11_89 (ctX11_change (n := (nA (τ.1 71 2))) h.hr.1 h.n8) (gDec iX11_addGlyph_ok 29 rfl) rfl rfl (by decide) rfl rfl rfl (Nat.le_of_ble_eq_true rfl) rfl (gFit_rm (by decide) (by decide)) rfl ?_
  refine go_w (show _ = gChg (gPut σ 376 5 0) (nA (τ.1 71 2)) from rfl) ?_
  refine go_aload_n (q := 58) (gDec iX11_addGlyph_ok 30 rfl) rfl rfl rfl ?_
  refine go_iload_n (q := 59) (gDec iX11_addGlyph_ok 31 rfl) rfl rfl rfl ?_
  refine go_callV (n2 := 0) (q := 62) kX11_92 (ctX11_newGlyph (n := gNg τ) (hM.ng hW) (by omega)) (gDec iX11_addGlyph_ok 32 rfl) rfl rfl (by decide) rfl rfl rfl (Nat.le_of_ble_eq_true rfl) rfl (gFit_rm (by decide) (by decide)) rfl ?_
  exact go_ireturn (gDec iX11_addGlyph_ok 33 rfl) rfl rfl rfl rfl (by decide)

set_option maxHeartbeats 4000000 in
set_option maxRecDepth 100000 in
theorem ok_addGlyph {κ : gK} {σ τ : gST} {c : Int32} (h : gAll τ σ) : gOK κ mX11_addGlyph [.ref (κ.2.1 + 376), .int c] σ (rI (aI (fAddGlyph τ c).1)) kAS (fAddGlyph τ c) := by
  have hC := h.ci
  have hM := h.mr
  have hW := hC.dw
  have h24 := hW.ng24
  by_cases h1 : 33 ≤ c.toInt ∧ c.toInt ≤ 126
  · by_cases h2 : gNg τ = 24
    · rw [show fAddGlyph τ c = (xISE, τ) from (if_pos h1).trans (if_pos (Or.inl h2))]
      refine gOK.rd h rfl ?_
      refine ct_of (by decide +kernel) rfl (Nat.le_of_ble_eq_true rfl) rfl ?_
      refine go_aload_n (q := 1) (gDec iX11_addGlyph_ok 0 rfl) rfl rfl rfl ?_
      refine go_iload_n (q := 2) (gDec iX11_addGlyph_ok 1 rfl) rfl rfl rfl ?_
      refine go_i2l (q := 3) (gDec iX11_addGlyph_ok 2 rfl) rfl ?_
      refine go_bipush (v := nI 33) (q := 5) (gDec iX11_addGlyph_ok 3 rfl) (by decide) rfl ?_
      refine go_bipush (v := nI 126) (q := 7) (gDec iX11_addGlyph_ok 4 rfl) (by decide) rfl ?_
      refine go_callS (n2 := 0) (q := 10) kX11_57 ctX11_in (gDec iX11_addGlyph_ok 5 rfl) rfl rfl (Nat.le_of_ble_eq_true rfl) rfl (gFit_rm (by decide) (by decide)) rfl ?_
      refine go_top (v' := 1) (gWi_t (by (try rw [i2l_toInt]); exact h1)) ?_
      refine go_if_ne (t := 17) (q := 13) (gDec iX11_addGlyph_ok 6 rfl) (by decide) rfl (fun c10 => ?_) (fun c10 => False.elim (absurd c10 (by decide)))
      refine go_aload_n (q := 18) (gDec iX11_addGlyph_ok 9 rfl) rfl rfl rfl ?_
      refine go_getr (r' := 377) (q := 21) fX11_9 (gDec iX11_addGlyph_ok 10 rfl) rfl (by decide) rfl ?_
      refine go_iconst (v := nI 0) (q := 22) (gDec iX11_addGlyph_ok 11 rfl) (by decide) rfl ?_
      refine go_top (v' := nI 0) (rfl) ?_
      refine go_ialdN (q := 23) (gDec iX11_addGlyph_ok 12 rfl) rfl (by decide) (by omega) (by decide) rfl ?_
      refine go_top (v' := nI 24) ((hM.ng hW).trans (by rw [h2])) ?_
      refine go_bipush (v := nI 24) (q := 25) (gDec iX11_addGlyph_ok 13 rfl) (by decide) rfl ?_
      refine go_icmp_eq (t := 36) (q := 28) (gDec iX11_addGlyph_ok 14 rfl) (by decide) rfl (fun c25 => ?_) (fun c25 => False.elim (c25 rfl))
      refine go_iconst (v := nI 2) (q := 37) (gDec iX11_addGlyph_ok 19 rfl) (by decide) rfl ?_
      refine go_goto (t := 41) (gDec iX11_addGlyph_ok 20 rfl) (by decide) ?_
      refine go_puti (q := 44) fX11_54 gft11 (gDec iX11_addGlyph_ok 22 rfl) rfl (by decide) rfl rfl rfl rfl ?_
      refine go_aload_n (q := 45) (gDec iX11_addGlyph_ok 23 rfl) rfl rfl rfl ?_
      refine go_geti (q := 48) fX11_54 (gDec iX11_addGlyph_ok 24 rfl) rfl (by decide) rfl ?_
      refine go_top (v' := nI 2) rfl ?_
      refine go_if_le (t := 53) (q := 51) (gDec iX11_addGlyph_ok 25 rfl) (by decide) rfl (fun c48 => False.elim (absurd c48 (by decide))) (fun c48 => ?_)
      refine go_iconst (v := nI 0) (q := 52) (gDec iX11_addGlyph_ok 26 rfl) (by decide) rfl ?_
      exact go_ireturn (gDec iX11_addGlyph_ok 27 rfl) rfl rfl rfl (congrArg (gPut σ 376 5) xc_AS_S) (by decide)
    · rcases gFind_ex (f := τ.1 4) (c := c) (gNg τ) 0 with h3 | ⟨k, -, hk, h3, -⟩
      · rw [show fAddGlyph τ c = (rI (nI (gNg τ)), (gPut (gPut (gRem τ) 4 (gNg τ) c) 2 5 (nI (gNg τ + 1)))) from (if_pos h1).trans (if_neg (fun h9 => h9.elim h2 (fun h8 => h8 h3)))]
        refine gOK.ch h (okw_addGlyph h h1 (by omega) h3) (mt_new (gRem_ci hC) (gRem_mr hC hM) (gRem_ng τ).symm (by omega) h1 (gNw_s _ _ _)) (fun k hk => by rw [gPut_ne _ _ _ (by omega), gPut_ne _ _ _ (by omega)]) ?_ (fun k hk => gNw_o _ _ _ hk) rfl
        have e : gNg (gPut (gPut (gRem τ) 4 (gNg τ) c) 2 5 (nI (gNg τ + 1))) = gNg τ + 1 := by unfold gNg; rw [gPut_at, if_pos ⟨rfl, rfl⟩]; exact nA_nI (by show nA (τ.1 2 5) + 1 < 2 ^ 31; have : nA (τ.1 2 5) = gNg τ := rfl; omega)
        omega
      · rw [show fAddGlyph τ c = (xISE, τ) from (if_pos h1).trans (if_pos (Or.inr (by rw [h3]; exact fun h9 => nI_pos (n := k) (by omega) (by rw [h9]; decide))))]
        refine gOK.rd h rfl ?_
        refine ct_of (by decide +kernel) rfl (Nat.le_of_ble_eq_true rfl) rfl ?_
        refine go_aload_n (q := 1) (gDec iX11_addGlyph_ok 0 rfl) rfl rfl rfl ?_
        refine go_iload_n (q := 2) (gDec iX11_addGlyph_ok 1 rfl) rfl rfl rfl ?_
        refine go_i2l (q := 3) (gDec iX11_addGlyph_ok 2 rfl) rfl ?_
        refine go_bipush (v := nI 33) (q := 5) (gDec iX11_addGlyph_ok 3 rfl) (by decide) rfl ?_
        refine go_bipush (v := nI 126) (q := 7) (gDec iX11_addGlyph_ok 4 rfl) (by decide) rfl ?_
        refine go_callS (n2 := 0) (q := 10) kX11_57 ctX11_in (gDec iX11_addGlyph_ok 5 rfl) rfl rfl (Nat.le_of_ble_eq_true rfl) rfl (gFit_rm (by decide) (by decide)) rfl ?_
        refine go_top (v' := 1) (gWi_t (by (try rw [i2l_toInt]); exact h1)) ?_
        refine go_if_ne (t := 17) (q := 13) (gDec iX11_addGlyph_ok 6 rfl) (by decide) rfl (fun c10 => ?_) (fun c10 => False.elim (absurd c10 (by decide)))
        refine go_aload_n (q := 18) (gDec iX11_addGlyph_ok 9 rfl) rfl rfl rfl ?_
        refine go_getr (r' := 377) (q := 21) fX11_9 (gDec iX11_addGlyph_ok 10 rfl) rfl (by decide) rfl ?_
        refine go_iconst (v := nI 0) (q := 22) (gDec iX11_addGlyph_ok 11 rfl) (by decide) rfl ?_
        refine go_top (v' := nI 0) (rfl) ?_
        refine go_ialdN (q := 23) (gDec iX11_addGlyph_ok 12 rfl) rfl (by decide) (by omega) (by decide) rfl ?_
        refine go_top (v' := nI (gNg τ)) (hM.ng hW) ?_
        refine go_bipush (v := nI 24) (q := 25) (gDec iX11_addGlyph_ok 13 rfl) (by decide) rfl ?_
        refine go_icmp_eq (t := 36) (q := 28) (gDec iX11_addGlyph_ok 14 rfl) (by decide) rfl (fun c25 => False.elim (absurd ((nI_eq (a := gNg τ) (b := 24) (by omega) (by decide)).mp c25) h2)) (fun c25 => ?_)
        refine go_aload_n (q := 29) (gDec iX11_addGlyph_ok 15 rfl) rfl rfl rfl ?_
        refine go_iload_n (q := 30) (gDec iX11_addGlyph_ok 16 rfl) rfl rfl rfl ?_
        refine go_callV (n2 := 0) (q := 33) kX11_85 (ctX11_withCode (τ := τ) hW hM) (gDec iX11_addGlyph_ok 17 rfl) rfl rfl (by decide) rfl rfl rfl (Nat.le_of_ble_eq_true rfl) rfl (gFit_rm (by decide) (by decide)) rfl ?_
        refine go_top (v' := nI k) (h3) ?_
        refine go_if_lt (t := 40) (q := 36) (gDec iX11_addGlyph_ok 18 rfl) (by decide) rfl (fun c33 => False.elim (nI_pos (by omega) c33)) (fun c33 => ?_)
        refine go_iconst (v := nI 2) (q := 37) (gDec iX11_addGlyph_ok 19 rfl) (by decide) rfl ?_
        refine go_goto (t := 41) (gDec iX11_addGlyph_ok 20 rfl) (by decide) ?_
        refine go_puti (q := 44) fX11_54 gft11 (gDec iX11_addGlyph_ok 22 rfl) rfl (by decide) rfl rfl rfl rfl ?_
        refine go_aload_n (q := 45) (gDec iX11_addGlyph_ok 23 rfl) rfl rfl rfl ?_
        refine go_geti (q := 48) fX11_54 (gDec iX11_addGlyph_ok 24 rfl) rfl (by decide) rfl ?_
        refine go_top (v' := nI 2) rfl ?_
        refine go_if_le (t := 53) (q := 51) (gDec iX11_addGlyph_ok 25 rfl) (by decide) rfl (fun c48 => False.elim (absurd c48 (by decide))) (fun c48 => ?_)
        refine go_iconst (v := nI 0) (q := 52) (gDec iX11_addGlyph_ok 26 rfl) (by decide) rfl ?_
        exact go_ireturn (gDec iX11_addGlyph_ok 27 rfl) rfl rfl rfl (congrArg (gPut σ 376 5) xc_AS_S) (by decide)
  · rw [show fAddGlyph τ c = (xIAE, τ) from if_neg h1]
    refine gOK.rd h rfl ?_
    refine ct_of (by decide +kernel) rfl (Nat.le_of_ble_eq_true rfl) rfl ?_
    refine go_aload_n (q := 1) (gDec iX11_addGlyph_ok 0 rfl) rfl rfl rfl ?_
    refine go_iload_n (q := 2) (gDec iX11_addGlyph_ok 1 rfl) rfl rfl rfl ?_
    refine go_i2l (q := 3) (gDec iX11_addGlyph_ok 2 rfl) rfl ?_
    refine go_bipush (v := nI 33) (q := 5) (gDec iX11_addGlyph_ok 3 rfl) (by decide) rfl ?_
    refine go_bipush (v := nI 126) (q := 7) (gDec iX11_addGlyph_ok 4 rfl) (by decide) rfl ?_
    refine go_callS (n2 := 0) (q := 10) kX11_57 ctX11_in (gDec iX11_addGlyph_ok 5 rfl) rfl rfl (Nat.le_of_ble_eq_true rfl) rfl (gFit_rm (by decide) (by decide)) rfl ?_
    refine go_top (v' := 0) (gWi_f (by (try rw [i2l_toInt]); exact h1)) ?_
    refine go_if_ne (t := 17) (q := 13) (gDec iX11_addGlyph_ok 6 rfl) (by decide) rfl (fun c10 => False.elim (c10 rfl)) (fun c10 => ?_)
    refine go_iconst (v := nI 1) (q := 14) (gDec iX11_addGlyph_ok 7 rfl) (by decide) rfl ?_
    refine go_goto (t := 41) (gDec iX11_addGlyph_ok 8 rfl) (by decide) ?_
    refine go_puti (q := 44) fX11_54 gft11 (gDec iX11_addGlyph_ok 22 rfl) rfl (by decide) rfl rfl rfl rfl ?_
    refine go_aload_n (q := 45) (gDec iX11_addGlyph_ok 23 rfl) rfl rfl rfl ?_
    refine go_geti (q := 48) fX11_54 (gDec iX11_addGlyph_ok 24 rfl) rfl (by decide) rfl ?_
    refine go_top (v' := nI 1) rfl ?_
    refine go_if_le (t := 53) (q := 51) (gDec iX11_addGlyph_ok 25 rfl) (by decide) rfl (fun c48 => False.elim (absurd c48 (by decide))) (fun c48 => ?_)
    refine go_iconst (v := nI 0) (q := 52) (gDec iX11_addGlyph_ok 26 rfl) (by decide) rfl ?_
    exact go_ireturn (gDec iX11_addGlyph_ok 27 rfl) rfl rfl rfl (congrArg (gPut σ 376 5) xc_AS_A) (by decide)
