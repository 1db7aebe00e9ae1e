theorem gD_1 : gIsD 1 := by intro k hk; have h : ∀ k, k < 35 → gSh (1 + k) = gDs 1 k := (by decide +kernel); exact h k hk
theorem gD_36 : gIsD 36 := by intro k hk; have h : ∀ k, k < 35 → gSh (36 + k) = gDs 36 k := (by decide +kernel); exact h k hk
theorem gD_h {j : Nat} (hj : j < 8) : gIsD (73 + 35 * j) := by 
  intro k hk
  have h : ((List.range 8).all fun j => (List.range 35).all fun k => decide (gSh (73 + 35 * j + k) = gDs (73 + 35 * j) k)) = true := by decide +kernel
  have h1 := List.all_eq_true.mp h j (List.mem_range.mpr hj)
  have h2 := List.all_eq_true.mp h1 k (List.mem_range.mpr hk)
  exact of_decide_eq_true h2
theorem gDc_out {l : gCpL} {σ : gST} {o o2 a : Nat} (h : a < o ∨ o + 35 ≤ a) (i : Nat) : (gDc l σ o o2).1 a i = σ.1 a i := by
  unfold gDc
  dsimp only
  rw [if_neg (by omega)]
theorem gDc_in {l : gCpL} {σ : gST} {o o2 k i : Nat} (hk : k < 35) (h : gIn l k i = true) : (gDc l σ o o2).1 (o + k) i = σ.1 (o2 + k) i := by
  unfold gDc
  dsimp only
  rw [Nat.add_sub_cancel_left, if_pos ⟨by omega, by omega, h⟩]
theorem go_aaldN {κ : gK} {M : gM} {R : Room} {Z : gZ} {pc q : Nat} {L : gL} {st : List Value} {σ : gST} {n : Nat} {r len j : Nat} (hd : decode M.2.1 pc = .ok (.aaload, 1)) (hs : gSh r = .inr (4, len)) (hr : r < gN) (hj : j < len) (hl : len < 2 ^ 31) (hq : pc + 1 = q) (kk : Go κ M R Z q L (.ref (κ.2.1 + (73 + 35 * j)) :: st) σ n) : Go κ M R Z pc L (.int (nI j) :: .ref (κ.2.1 + r) :: st) σ n := by
  refine go_aald hd hs hr (vp_in_nI hj hl) hq ?_
  rw [nI_clamp (Nat.lt_trans hj hl)]
  exact kk
theorem gH_1 {j : Nat} (h : j < 8) : nI (j + 1) - nI (j + 1) / 8 * 8 = nI ((j + 1) % 8) := by
  have h1 : ∀ j, j < 8 → nI (j + 1) - nI (j + 1) / 8 * 8 = nI ((j + 1) % 8) := by decide +kernel
  exact h1 j h
theorem gH_7 {j : Nat} (h : j < 8) : nI j + 8 - 1 - (nI j + 8 - 1) / 8 * 8 = nI ((j + 7) % 8) := by
  have h1 : ∀ j, j < 8 → nI j + 8 - 1 - (nI j + 8 - 1) / 8 * 8 = nI ((j + 7) % 8) := by decide +kernel
  exact h1 j h
theorem gH_s {s : Nat} (h : s ≤ 8) : (if (8 : Int32) < nI (s + 1) then 8 else nI (s + 1)) = nI (if s < 8 then s + 1 else 8) := by
  have h1 : ∀ s, s < 9 → (if (8 : Int32) < nI (s + 1) then 8 else nI (s + 1)) = nI (if s < 8 then s + 1 else 8) := by decide +kernel
  exact h1 s (by omega)
theorem gH_m {s : Nat} (h : s ≤ 8) : (if nI s - 1 < 0 then 0 else nI s - 1) = nI (s - 1) := by
  have h1 : ∀ s, s < 9 → (if nI s - 1 < 0 then 0 else nI s - 1) = nI (s - 1) := by decide +kernel
  exact h1 s (by omega)

set_option maxHeartbeats 4000000 in
set_option maxRecDepth 100000 in
theorem ctX3_slot {κ : gK} {σ : gST} {j : Nat} (hj : j < 8) : gCt κ mX3_slot 0 [.ref (κ.2.1 + 71), .int (nI j)] σ (.inl (some (.ref (κ.2.1 + (73 + 35 * j))))) σ 0 := by
  refine ct_of (by decide +kernel) rfl (Nat.le_of_ble_eq_true rfl) rfl ?_
  refine go_iload_n (q := 1) (gDec iX3_slot_ok 0 rfl) rfl rfl rfl ?_
  refine go_if_lt (t := 22) (q := 4) (gDec iX3_slot_ok 1 rfl) (by decide) rfl (fun c1 => False.elim (nI_pos (by omega) c1)) (fun c1 => ?_)
  refine go_iload_n (q := 5) (gDec iX3_slot_ok 2 rfl) rfl rfl rfl ?_
  refine go_aload_n (q := 6) (gDec iX3_slot_ok 3 rfl) rfl rfl rfl ?_
  refine go_getr (r' := 72) (q := 9) fX3_11 (gDec iX3_slot_ok 4 rfl) rfl (by decide) rfl ?_
  refine go_alen (v := 8) (q := 10) (gDec iX3_slot_ok 5 rfl) rfl (by decide) (by decide) rfl rfl ?_
  refine go_icmp_ge (t := 22) (q := 13) (gDec iX3_slot_ok 6 rfl) (by decide) rfl (fun c10 => False.elim (nI_ge hj (by decide) c10)) (fun c10 => ?_)
  refine go_aload_n (q := 14) (gDec iX3_slot_ok 7 rfl) rfl rfl rfl ?_
  refine go_getr (r' := 72) (q := 17) fX3_11 (gDec iX3_slot_ok 8 rfl) rfl (by decide) rfl ?_
  refine go_iload_n (q := 18) (gDec iX3_slot_ok 9 rfl) rfl rfl rfl ?_
  refine go_aaldN (q := 19) (gDec iX3_slot_ok 10 rfl) rfl (by decide) hj (by decide) rfl ?_
  refine go_goto (t := 23) (gDec iX3_slot_ok 11 rfl) (by decide) ?_
  exact go_areturn (gDec iX3_slot_ok 13 rfl) rfl rfl rfl (by decide)

set_option maxHeartbeats 4000000 in
set_option maxRecDepth 100000 in
theorem ctX3_remember {κ : gK} {σ : gST} {j s : Nat} (hj : j < 8) (hs8 : s ≤ 8) (hn : σ.1 71 1 = nI j) (hs : σ.1 71 2 = nI s) : gCt κ mX3_remember 4 [.ref (κ.2.1 + 71), .ref (κ.2.1 + 1)] σ (.inl none) (gPut (gPut (gDc gLX1_copyFrom σ (73 + 35 * j) 1) 71 1 (nI ((j + 1) % 8))) 71 2 (nI (if s < 8 then s + 1 else 8))) 0 := by
  have hD : gIsD (73 + 35 * j) := gD_h hj
  refine ct_of (by decide +kernel) rfl (Nat.le_of_ble_eq_true rfl) rfl ?_
  refine go_aload_n (q := 1) (gDec iX3_remember_ok 0 rfl) rfl rfl rfl ?_
  refine go_aload_n (q := 2) (gDec iX3_remember_ok 1 rfl) rfl rfl rfl ?_
  refine go_geti (q := 5) fX3_17 (gDec iX3_remember_ok 2 rfl) rfl (by decide) rfl ?_
  refine go_top (v' := nI j) (hn) ?_
  refine go_callV (n2 := 0) (q := 8) kX3_25 (ctX3_slot hj) (gDec iX3_remember_ok 3 rfl) rfl rfl (by decide) rfl rfl rfl (Nat.le_of_ble_eq_true rfl) rfl (gFit_rm (by decide) (by decide)) rfl ?_
  refine go_astore_n (q := 9) (gDec iX3_remember_ok 4 rfl) rfl (by decide) rfl ?_
  refine go_aload_n (q := 10) (gDec iX3_remember_ok 5 rfl) rfl rfl rfl ?_
  refine go_ifnull (q := 13) (gDec iX3_remember_ok 6 rfl) rfl ?_
  refine go_aload_n (q := 14) (gDec iX3_remember_ok 7 rfl) rfl rfl rfl ?_
  refine go_aload_n (q := 15) (gDec iX3_remember_ok 8 rfl) rfl rfl rfl ?_
  refine go_callV (n2 := 0) (q := 18) kX3_29 (ctX1_copyFrom (o := 73 + 35 * j) (o2 := 1) hD gD_1 (by first | decide | omega | exact (show _ ≤ gN from Nat.le_of_lt_succ (show _ < 393 by omega))) (by first | decide | omega | exact (show _ ≤ gN from Nat.le_of_lt_succ (show _ < 393 by omega))) (by first | decide | omega | exact (show _ ≤ gN from Nat.le_of_lt_succ (show _ < 393 by omega)))) (gDec iX3_remember_ok 9 rfl) rfl (hD 0 (by decide)) (show 73 + 35 * j < gN from (by omega : 73 + 35 * j < 392)) rfl rfl rfl (Nat.le_of_ble_eq_true rfl) rfl (gFit_rm (by decide) (by decide)) rfl ?_
  refine go_aload_n (q := 19) (gDec iX3_remember_ok 10 rfl) rfl rfl rfl ?_
  refine go_aload_n (q := 20) (gDec iX3_remember_ok 11 rfl) rfl rfl rfl ?_
  refine go_geti (q := 23) fX3_17 (gDec iX3_remember_ok 12 rfl) rfl (by decide) rfl ?_
  refine go_top (v' := nI j) ((gDc_out (Or.inl (by omega)) 1).trans hn) ?_
  refine go_iconst (v := 1) (q := 24) (gDec iX3_remember_ok 13 rfl) (by decide) rfl ?_
  refine go_iadd (q := 25) (gDec iX3_remember_ok 14 rfl) rfl ?_
  refine go_top (v' := nI (j + 1)) (nI_1 j) ?_
  refine go_bipush (v := 8) (q := 27) (gDec iX3_remember_ok 15 rfl) (by decide) rfl ?_
  refine go_irem (q := 28) (gDec iX3_remember_ok 16 rfl) (by decide) rfl ?_
  refine go_top (v' := nI ((j + 1) % 8)) (gH_1 hj) ?_
  refine go_puti (q := 31) fX3_17 gft3 (gDec iX3_remember_ok 17 rfl) rfl (by decide) rfl rfl rfl rfl ?_
  refine go_aload_n (q := 32) (gDec iX3_remember_ok 18 rfl) rfl rfl rfl ?_
  refine go_aload_n (q := 33) (gDec iX3_remember_ok 19 rfl) rfl rfl rfl ?_
  refine go_geti (q := 36) fX3_21 (gDec iX3_remember_ok 20 rfl) rfl (by decide) rfl ?_
  refine go_top (v' := nI s) ((by rw [gPut_at, if_neg (by decide)]; exact (gDc_out (Or.inl (by omega)) 2).trans hs)) ?_
  refine go_iconst (v := 1) (q := 37) (gDec iX3_remember_ok 21 rfl) (by decide) rfl ?_
  refine go_iadd (q := 38) (gDec iX3_remember_ok 22 rfl) rfl ?_
  refine go_top (v' := nI (s + 1)) (nI_1 s) ?_
  refine go_bipush (v := 8) (q := 40) (gDec iX3_remember_ok 23 rfl) (by decide) rfl ?_
  refine go_min (q := 43) kX3_33 (gDec iX3_remember_ok 24 rfl) (Nat.le_of_ble_eq_true rfl) (gFit_rm (by decide) (by decide)) rfl ?_
  refine go_top (v' := nI (if s < 8 then s + 1 else 8)) (gH_s hs8) ?_
  refine go_puti (q := 46) fX3_21 gft3 (gDec iX3_remember_ok 25 rfl) rfl (by decide) rfl rfl rfl rfl ?_
  exact go_return (gDec iX3_remember_ok 26 rfl) rfl rfl rfl (by decide)

set_option maxHeartbeats 4000000 in
set_option maxRecDepth 100000 in
theorem ctX3_takeBack {κ : gK} {σ : gST} {j s : Nat} (hj : j < 8) (hs8 : s ≤ 8) (hn : σ.1 71 1 = nI j) (hs : σ.1 71 2 = nI s) : gCt κ mX3_takeBack 4 [.ref (κ.2.1 + 71), .ref (κ.2.1 + 1)] σ (.inl none) (gDc gLX1_copyFrom (gPut (gPut σ 71 1 (nI ((j + 7) % 8))) 71 2 (nI (s - 1))) 1 (73 + 35 * ((j + 7) % 8))) 0 := by
  have hj7 : (j + 7) % 8 < 8 := Nat.mod_lt _ (by decide)
  have hD : gIsD (73 + 35 * ((j + 7) % 8)) := gD_h hj7
  refine ct_of (by decide +kernel) rfl (Nat.le_of_ble_eq_true rfl) rfl ?_
  refine go_aload_n (q := 1) (gDec iX3_takeBack_ok 0 rfl) rfl rfl rfl ?_
  refine go_aload_n (q := 2) (gDec iX3_takeBack_ok 1 rfl) rfl rfl rfl ?_
  refine go_geti (q := 5) fX3_17 (gDec iX3_takeBack_ok 2 rfl) rfl (by decide) rfl ?_
  refine go_top (v' := nI j) (hn) ?_
  refine go_bipush (v := 8) (q := 7) (gDec iX3_takeBack_ok 3 rfl) (by decide) rfl ?_
  refine go_iadd (q := 8) (gDec iX3_takeBack_ok 4 rfl) rfl ?_
  refine go_iconst (v := 1) (q := 9) (gDec iX3_takeBack_ok 5 rfl) (by decide) rfl ?_
  refine go_isub (q := 10) (gDec iX3_takeBack_ok 6 rfl) rfl ?_
  refine go_bipush (v := 8) (q := 12) (gDec iX3_takeBack_ok 7 rfl) (by decide) rfl ?_
  refine go_irem (q := 13) (gDec iX3_takeBack_ok 8 rfl) (by decide) rfl ?_
  refine go_top (v' := nI ((j + 7) % 8)) (gH_7 hj) ?_
  refine go_puti (q := 16) fX3_17 gft3 (gDec iX3_takeBack_ok 9 rfl) rfl (by decide) rfl rfl rfl rfl ?_
  refine go_aload_n (q := 17) (gDec iX3_takeBack_ok 10 rfl) rfl rfl rfl ?_
  refine go_aload_n (q := 18) (gDec iX3_takeBack_ok 11 rfl) rfl rfl rfl ?_
  refine go_geti (q := 21) fX3_21 (gDec iX3_takeBack_ok 12 rfl) rfl (by decide) rfl ?_
  refine go_top (v' := nI s) ((by rw [gPut_at, if_neg (by decide)]; exact hs)) ?_
  refine go_iconst (v := 1) (q := 22) (gDec iX3_takeBack_ok 13 rfl) (by decide) rfl ?_
  refine go_isub (q := 23) (gDec iX3_takeBack_ok 14 rfl) rfl ?_
  refine go_iconst (v := 0) (q := 24) (gDec iX3_takeBack_ok 15 rfl) (by decide) rfl ?_
  refine go_max (q := 27) kX3_39 (gDec iX3_takeBack_ok 16 rfl) (Nat.le_of_ble_eq_true rfl) (gFit_rm (by decide) (by decide)) rfl ?_
  refine go_top (v' := nI (s - 1)) (gH_m hs8) ?_
  refine go_puti (q := 30) fX3_21 gft3 (gDec iX3_takeBack_ok 17 rfl) rfl (by decide) rfl rfl rfl rfl ?_
  refine go_aload_n (q := 31) (gDec iX3_takeBack_ok 18 rfl) rfl rfl rfl ?_
  refine go_aload_n (q := 32) (gDec iX3_takeBack_ok 19 rfl) rfl rfl rfl ?_
  refine go_geti (q := 35) fX3_17 (gDec iX3_takeBack_ok 20 rfl) rfl (by decide) rfl ?_
  refine go_top (v' := nI ((j + 7) % 8)) ((by rw [gPut_at, if_neg (by decide), gPut_at, if_pos ⟨rfl, rfl⟩])) ?_
  refine go_callV (n2 := 0) (q := 38) kX3_25 (ctX3_slot (j := (j + 7) % 8) hj7) (gDec iX3_takeBack_ok 21 rfl) rfl rfl (by decide) rfl rfl rfl (Nat.le_of_ble_eq_true rfl) rfl (gFit_rm (by decide) (by decide)) rfl ?_
  refine go_astore_n (q := 39) (gDec iX3_takeBack_ok 22 rfl) rfl (by decide) rfl ?_
  refine go_aload_n (q := 40) (gDec iX3_takeBack_ok 23 rfl) rfl rfl rfl ?_
  refine go_ifnull (q := 43) (gDec iX3_takeBack_ok 24 rfl) rfl ?_
  refine go_aload_n (q := 44) (gDec iX3_takeBack_ok 25 rfl) rfl rfl rfl ?_
  refine go_aload_n (q := 45) (gDec iX3_takeBack_ok 26 rfl) rfl rfl rfl ?_
  refine go_callV (n2 := 0) (q := 48) kX3_29 (ctX1_copyFrom (o := 1) (o2 := 73 + 35 * ((j + 7) % 8)) gD_1 hD (by first | decide | omega | exact (show _ ≤ gN from Nat.le_of_lt_succ (show _ < 393 by omega))) (by first | decide | omega | exact (show _ ≤ gN from Nat.le_of_lt_succ (show _ < 393 by omega))) (by first | decide | omega | exact (show _ ≤ gN from Nat.le_of_lt_succ (show _ < 393 by omega)))) (gDec iX3_takeBack_ok 27 rfl) rfl rfl (by decide) rfl rfl rfl (Nat.le_of_ble_eq_true rfl) rfl (gFit_rm (by decide) (by decide)) rfl ?_
  exact go_return (gDec iX3_takeBack_ok 28 rfl) rfl rfl rfl (by decide)

set_option maxHeartbeats 4000000 in
set_option maxRecDepth 100000 in
theorem ctX3_size {κ : gK} {σ : gST}  : gCt κ mX3_size 0 [.ref (κ.2.1 + 71)] σ (.inl (some (.int (σ.1 71 2)))) σ 0 := by
  refine ct_of (by decide +kernel) rfl (Nat.le_of_ble_eq_true rfl) rfl ?_
  refine go_aload_n (q := 1) (gDec iX3_size_ok 0 rfl) rfl rfl rfl ?_
  refine go_geti (q := 4) fX3_21 (gDec iX3_size_ok 1 rfl) rfl (by decide) rfl ?_
  exact go_ireturn (gDec iX3_size_ok 2 rfl) rfl rfl rfl rfl (by decide)

set_option maxHeartbeats 4000000 in
set_option maxRecDepth 100000 in
theorem ctX3_forget {κ : gK} {σ : gST}  : gCt κ mX3_forget 0 [.ref (κ.2.1 + 71)] σ (.inl none) (gPut σ 71 2 0) 0 := by
  refine ct_of (by decide +kernel) rfl (Nat.le_of_ble_eq_true rfl) rfl ?_
  refine go_aload_n (q := 1) (gDec iX3_forget_ok 0 rfl) rfl rfl rfl ?_
  refine go_iconst (v := 0) (q := 2) (gDec iX3_forget_ok 1 rfl) (by decide) rfl ?_
  refine go_puti (q := 5) fX3_21 gft3 (gDec iX3_forget_ok 2 rfl) rfl (by decide) rfl rfl rfl rfl ?_
  exact go_return (gDec iX3_forget_ok 3 rfl) rfl rfl rfl (by decide)

set_option maxHeartbeats 4000000 in
set_option maxRecDepth 100000 in
theorem ctX9_length {κ : gK} {σ : gST}  : gCt κ mX9_length 0 [.ref (κ.2.1 + 353)] σ (.inl (some (.int (σ.1 353 1)))) σ 0 := by
  refine ct_of (by decide +kernel) rfl (Nat.le_of_ble_eq_true rfl) rfl ?_
  refine go_aload_n (q := 1) (gDec iX9_length_ok 0 rfl) rfl rfl rfl ?_
  refine go_geti (q := 4) fX9_20 (gDec iX9_length_ok 1 rfl) rfl (by decide) rfl ?_
  exact go_ireturn (gDec iX9_length_ok 2 rfl) rfl rfl rfl rfl (by decide)

set_option maxHeartbeats 4000000 in
set_option maxRecDepth 100000 in
theorem ctX9_isFull {κ : gK} {σ : gST} {n : Nat} (hn : σ.1 353 1 = nI n) (hle : n ≤ 60) : gCt κ mX9_isFull 0 [.ref (κ.2.1 + 353)] σ (.inl (some (.int (if n = 60 then 1 else 0)))) σ 0 := by
  refine ct_of (by decide +kernel) rfl (Nat.le_of_ble_eq_true rfl) rfl ?_
  refine go_aload_n (q := 1) (gDec iX9_isFull_ok 0 rfl) rfl rfl rfl ?_
  refine go_geti (q := 4) fX9_20 (gDec iX9_isFull_ok 1 rfl) rfl (by decide) rfl ?_
  refine go_bipush (v := 60) (q := 6) (gDec iX9_isFull_ok 2 rfl) (by decide) rfl ?_
  refine go_icmp_lt (t := 13) (q := 9) (gDec iX9_isFull_ok 3 rfl) (by decide) rfl (fun c6 => ?_) (fun c6 => ?_)
  · refine go_iconst (v := 0) (q := 14) (gDec iX9_isFull_ok 6 rfl) (by decide) rfl ?_
    exact go_ireturn (gDec iX9_isFull_ok 7 rfl) rfl rfl (by first | (rw [hn] at c6; rw [if_neg (fun h => nI_nlt (Nat.le_of_eq h.symm) (by omega) c6)]) | (rw [hn] at c6; rw [if_pos (by rcases Nat.lt_or_ge n 60 with h | h; exact absurd (nI_lt h (by decide)) c6; omega)])) rfl (by decide)
  · refine go_iconst (v := 1) (q := 10) (gDec iX9_isFull_ok 4 rfl) (by decide) rfl ?_
    refine go_goto (t := 14) (gDec iX9_isFull_ok 5 rfl) (by decide) ?_
    exact go_ireturn (gDec iX9_isFull_ok 7 rfl) rfl rfl (by first | (rw [hn] at c6; rw [if_neg (fun h => nI_nlt (Nat.le_of_eq h.symm) (by omega) c6)]) | (rw [hn] at c6; rw [if_pos (by rcases Nat.lt_or_ge n 60 with h | h; exact absurd (nI_lt h (by decide)) c6; omega)])) rfl (by decide)

set_option maxHeartbeats 4000000 in
set_option maxRecDepth 100000 in
theorem ctX9_signAt {κ : gK} {σ : gST} {i : Nat} (hi : i < 60) : gCt κ mX9_signAt 1 [.ref (κ.2.1 + 353), .int (nI i)] σ (.inl (some (.int (σ.1 355 i)))) σ 0 := by
  refine ct_of (by decide +kernel) rfl (Nat.le_of_ble_eq_true rfl) rfl ?_
  refine go_aload_n (q := 1) (gDec iX9_signAt_ok 0 rfl) rfl rfl rfl ?_
  refine go_getr (r' := 354) (q := 4) fX9_14 (gDec iX9_signAt_ok 1 rfl) rfl (by decide) rfl ?_
  refine go_iload_n (q := 5) (gDec iX9_signAt_ok 2 rfl) rfl rfl rfl ?_
  refine go_callV (n2 := 0) (q := 8) kX9_24 (ctX7_get (a := 355) rfl rfl (by decide) (by decide) (by omega) (by decide)) (gDec iX9_signAt_ok 3 rfl) rfl rfl (by decide) rfl rfl rfl (Nat.le_of_ble_eq_true rfl) rfl (gFit_rm (by decide) (by decide)) rfl ?_
  exact go_ireturn (gDec iX9_signAt_ok 4 rfl) rfl rfl rfl rfl (by decide)

set_option maxHeartbeats 4000000 in
set_option maxRecDepth 100000 in
theorem ctX9_add {κ : gK} {σ : gST} {n : Nat} {v : Int32} (hn : σ.1 353 1 = nI n) (hlt : n < 60) : gCt κ mX9_add 1 [.ref (κ.2.1 + 353), .int v] σ (.inl none) (gPut (gPut σ 355 n v) 353 1 (nI (n + 1))) 0 := by
  refine ct_of (by decide +kernel) rfl (Nat.le_of_ble_eq_true rfl) rfl ?_
  refine go_aload_n (q := 1) (gDec iX9_add_ok 0 rfl) rfl rfl rfl ?_
  refine go_getr (r' := 354) (q := 4) fX9_14 (gDec iX9_add_ok 1 rfl) rfl (by decide) rfl ?_
  refine go_aload_n (q := 5) (gDec iX9_add_ok 2 rfl) rfl rfl rfl ?_
  refine go_geti (q := 8) fX9_20 (gDec iX9_add_ok 3 rfl) rfl (by decide) rfl ?_
  refine go_top (v' := nI n) (hn) ?_
  refine go_iload_n (q := 9) (gDec iX9_add_ok 4 rfl) rfl rfl rfl ?_
  refine go_callV (n2 := 0) (q := 12) kX9_28 (ctX7_put (a := 355) rfl rfl (by decide) (by decide) (by omega) (by decide)) (gDec iX9_add_ok 5 rfl) rfl rfl (by decide) rfl rfl rfl (Nat.le_of_ble_eq_true rfl) rfl (gFit_rm (by decide) (by decide)) rfl ?_
  refine go_aload_n (q := 13) (gDec iX9_add_ok 6 rfl) rfl rfl rfl ?_
  refine go_dup (q := 14) (gDec iX9_add_ok 7 rfl) rfl rfl ?_
  refine go_geti (q := 17) fX9_20 (gDec iX9_add_ok 8 rfl) rfl (by decide) rfl ?_
  refine go_top (v' := nI n) ((by rw [gPut_at, if_neg (fun h => absurd h.1 (by decide))]; exact hn)) ?_
  refine go_iconst (v := 1) (q := 18) (gDec iX9_add_ok 9 rfl) (by decide) rfl ?_
  refine go_iadd (q := 19) (gDec iX9_add_ok 10 rfl) rfl ?_
  refine go_top (v' := nI (n + 1)) (nI_1 n) ?_
  refine go_puti (q := 22) fX9_20 gft9 (gDec iX9_add_ok 11 rfl) rfl (by decide) rfl rfl rfl rfl ?_
  exact go_return (gDec iX9_add_ok 12 rfl) rfl rfl rfl (by decide)

set_option maxHeartbeats 4000000 in
set_option maxRecDepth 100000 in
theorem ctX9_clear {κ : gK} {σ : gST}  : gCt κ mX9_clear 0 [.ref (κ.2.1 + 353)] σ (.inl none) (gPut σ 353 1 0) 0 := by
  refine ct_of (by decide +kernel) rfl (Nat.le_of_ble_eq_true rfl) rfl ?_
  refine go_aload_n (q := 1) (gDec iX9_clear_ok 0 rfl) rfl rfl rfl ?_
  refine go_iconst (v := 0) (q := 2) (gDec iX9_clear_ok 1 rfl) (by decide) rfl ?_
  refine go_puti (q := 5) fX9_20 gft9 (gDec iX9_clear_ok 2 rfl) rfl (by decide) rfl rfl rfl rfl ?_
  exact go_return (gDec iX9_clear_ok 3 rfl) rfl rfl rfl (by decide)

theorem gLoop_inv {α : Type} {step : Nat → α → α} {I : α → Prop} (hs : ∀ i a, I a → I (step i a)) : ∀ (m i : Nat) (a : α), I a → I (gLoop step i m a)
  | 0, _, _, h => h
  | m + 1, i, a, h => gLoop_inv hs m (i + 1) (step i a) (hs i a h)
/-- a point moved -/
def gMv (g c : Nat) (dx dy : Int32) (p : Nat) (a : gST) : gST := gPut (gPut a 10 ((g * 3 + c) * 12 + p) (a.1 10 ((g * 3 + c) * 12 + p) + dx)) 12 ((g * 3 + c) * 12 + p) (a.1 12 ((g * 3 + c) * 12 + p) + dy)
def gMvC (g : Nat) (dx dy : Int32) (pm : Nat → Nat) (c : Nat) (a : gST) : gST := gLoop (gMv g c dx dy) 0 (pm c) a
abbrev gMvI (σ a : gST) : Prop := a.1 8 = σ.1 8 ∧ a.1 6 = σ.1 6
theorem gMv_I {σ : gST} (g c : Nat) (dx dy : Int32) (p : Nat) (a : gST) (h : gMvI σ a) : gMvI σ (gMv g c dx dy p a) := by
  unfold gMv
  exact ⟨(gPut_ne _ _ _ (by decide)).trans ((gPut_ne _ _ _ (by decide)).trans h.1), (gPut_ne _ _ _ (by decide)).trans ((gPut_ne _ _ _ (by decide)).trans h.2)⟩
theorem gMvC_I {σ : gST} (g : Nat) (dx dy : Int32) (pm : Nat → Nat) (c : Nat) (a : gST) (h : gMvI σ a) : gMvI σ (gMvC g dx dy pm c a) :=
  gLoop_inv (I := gMvI σ) (fun p a h => gMv_I g c dx dy p a h) _ _ _ h

set_option maxHeartbeats 4000000 in
set_option maxRecDepth 100000 in
theorem lpX5_move2 {κ : gK} {Z : gZ}  {σ : gST} {g c P : Nat} {dx dy : Int32} (hg : g < 24) (hc : c < 3) (hP2 : P ≤ 12) (hP : σ.1 8 (g * 3 + c) = nI P) : ∀ (m i : Nat) (a : gST), i + m = P → gMvI σ a → Go κ mX5_moveAll (gRm 3 0) Z 65 [(0, .ref (κ.2.1 + 2)), (1, .int (nI g)), (2, .int dx), (3, .int dy), (4, .int (nI c)), (5, .int (nI P))] [] (gLoop (gMv g c dx dy) i m a) 0 → Go κ mX5_moveAll (gRm 3 0) Z 16 [(0, .ref (κ.2.1 + 2)), (1, .int (nI g)), (2, .int dx), (3, .int dy), (4, .int (nI c)), (5, .int (nI i))] [] a 0 := by
  intro m
  induction m with
  | zero =>
    intro i a hi hI h
    have hiN : P = i := by omega
    rw [hiN] at h
    refine go_iload (q := 18) (gDec iX5_moveAll_ok 9 rfl) rfl rfl ?_
    refine go_aload_n (q := 19) (gDec iX5_moveAll_ok 10 rfl) rfl rfl rfl ?_
    refine go_iload_n (q := 20) (gDec iX5_moveAll_ok 11 rfl) rfl rfl rfl ?_
    refine go_iload (q := 22) (gDec iX5_moveAll_ok 12 rfl) rfl rfl ?_
    refine go_callV (n2 := 0) (q := 25) kX5_58 (ctX5_pointCount (by omega) (by omega)) (gDec iX5_moveAll_ok 13 rfl) rfl rfl (by decide) rfl rfl rfl (Nat.le_of_ble_eq_true rfl) rfl (gFit_rm (by decide) (by decide)) rfl ?_
    refine go_icmp_ge (t := 65) (q := 28) (gDec iX5_moveAll_ok 14 rfl) (by decide) rfl (fun c25 => ?_) (fun c25 => False.elim (c25 (by rw [(show a.1 8 (g * 3 + c) = nI P from (congrFun hI.1 _).trans hP)]; exact nI_le (by omega) (by omega))))
    refine go_sub (L' := [(0, .ref (κ.2.1 + 2)), (1, .int (nI g)), (2, .int dx), (3, .int dy), (4, .int (nI c)), (5, .int (nI i))]) ⟨rfl, rfl, rfl, rfl, rfl, rfl, trivial⟩ ?_
    exact h
  | succ m ih =>
    intro i a hi hI h
    refine go_iload (q := 18) (gDec iX5_moveAll_ok 9 rfl) rfl rfl ?_
    refine go_aload_n (q := 19) (gDec iX5_moveAll_ok 10 rfl) rfl rfl rfl ?_
    refine go_iload_n (q := 20) (gDec iX5_moveAll_ok 11 rfl) rfl rfl rfl ?_
    refine go_iload (q := 22) (gDec iX5_moveAll_ok 12 rfl) rfl rfl ?_
    refine go_callV (n2 := 0) (q := 25) kX5_58 (ctX5_pointCount (by omega) (by omega)) (gDec iX5_moveAll_ok 13 rfl) rfl rfl (by decide) rfl rfl rfl (Nat.le_of_ble_eq_true rfl) rfl (gFit_rm (by decide) (by decide)) rfl ?_
    refine go_icmp_ge (t := 65) (q := 28) (gDec iX5_moveAll_ok 14 rfl) (by decide) rfl (fun c25 => False.elim (by rw [(show a.1 8 (g * 3 + c) = nI P from (congrFun hI.1 _).trans hP)] at c25; exact nI_ge (a := i) (b := P) (by omega) (by omega) c25)) (fun c25 => ?_)
    refine go_aload_n (q := 29) (gDec iX5_moveAll_ok 15 rfl) rfl rfl rfl ?_
    refine go_iload_n (q := 30) (gDec iX5_moveAll_ok 16 rfl) rfl rfl rfl ?_
    refine go_iload (q := 32) (gDec iX5_moveAll_ok 17 rfl) rfl rfl ?_
    refine go_iload (q := 34) (gDec iX5_moveAll_ok 18 rfl) rfl rfl ?_
    refine go_aload_n (q := 35) (gDec iX5_moveAll_ok 19 rfl) rfl rfl rfl ?_
    refine go_iload_n (q := 36) (gDec iX5_moveAll_ok 20 rfl) rfl rfl rfl ?_
    refine go_iload (q := 38) (gDec iX5_moveAll_ok 21 rfl) rfl rfl ?_
    refine go_iload (q := 40) (gDec iX5_moveAll_ok 22 rfl) rfl rfl ?_
    refine go_callV (n2 := 0) (q := 43) kX5_72 (ctX5_xOf (by omega) (by omega) (by omega)) (gDec iX5_moveAll_ok 23 rfl) rfl rfl (by decide) rfl rfl rfl (Nat.le_of_ble_eq_true rfl) rfl (gFit_rm (by decide) (by decide)) rfl ?_
    refine go_iload_n (q := 44) (gDec iX5_moveAll_ok 24 rfl) rfl rfl rfl ?_
    refine go_iadd (q := 45) (gDec iX5_moveAll_ok 25 rfl) rfl ?_
    refine go_aload_n (q := 46) (gDec iX5_moveAll_ok 26 rfl) rfl rfl rfl ?_
    refine go_iload_n (q := 47) (gDec iX5_moveAll_ok 27 rfl) rfl rfl rfl ?_
    refine go_iload (q := 49) (gDec iX5_moveAll_ok 28 rfl) rfl rfl ?_
    refine go_iload (q := 51) (gDec iX5_moveAll_ok 29 rfl) rfl rfl ?_
    refine go_callV (n2 := 0) (q := 54) kX5_75 (ctX5_yOf (by omega) (by omega) (by omega)) (gDec iX5_moveAll_ok 30 rfl) rfl rfl (by decide) rfl rfl rfl (Nat.le_of_ble_eq_true rfl) rfl (gFit_rm (by decide) (by decide)) rfl ?_
    refine go_iload_n (q := 55) (gDec iX5_moveAll_ok 31 rfl) rfl rfl rfl ?_
    refine go_iadd (q := 56) (gDec iX5_moveAll_ok 32 rfl) rfl ?_
    refine go_callV (n2 := 0) (q := 59) kX5_61 (ctX5_setPoint (by omega) (by omega) (by omega)) (gDec iX5_moveAll_ok 33 rfl) rfl rfl (by decide) rfl rfl rfl (Nat.le_of_ble_eq_true rfl) rfl (gFit_rm (by decide) (by decide)) rfl ?_
    refine go_iinc (v := nI (i + 1)) (q := 62) (gDec iX5_moveAll_ok 34 rfl) rfl (nI_1 i) (by decide) rfl ?_
    refine go_goto (t := 16) (gDec iX5_moveAll_ok 35 rfl) (by decide) ?_
    refine go_sub (L' := [(0, .ref (κ.2.1 + 2)), (1, .int (nI g)), (2, .int dx), (3, .int dy), (4, .int (nI c)), (5, .int (nI (i + 1)))]) ⟨rfl, rfl, rfl, rfl, rfl, rfl, trivial⟩ ?_
    exact ih (i + 1) ((gMv g c dx dy) i a) (by omega) (gMv_I g c dx dy i a hI) h

set_option maxHeartbeats 4000000 in
set_option maxRecDepth 100000 in
theorem lpX5_move1 {κ : gK} {Z : gZ}  {σ : gST} {g N : Nat} {pm : Nat → Nat} {dx dy : Int32} (hg : g < 24) (hN : N ≤ 3) (hm : σ.1 6 g = nI N) (hpm : ∀ c, c < N → σ.1 8 (g * 3 + c) = nI (pm c) ∧ pm c ≤ 12) : ∀ (m i : Nat) (a : gST), i + m = N → gMvI σ a → Go κ mX5_moveAll (gRm 3 0) Z 71 [(0, .ref (κ.2.1 + 2)), (1, .int (nI g)), (2, .int dx), (3, .int dy), (4, .int (nI N))] [] (gLoop (gMvC g dx dy pm) i m a) 0 → Go κ mX5_moveAll (gRm 3 0) Z 3 [(0, .ref (κ.2.1 + 2)), (1, .int (nI g)), (2, .int dx), (3, .int dy), (4, .int (nI i))] [] a 0 := by
  intro m
  induction m with
  | zero =>
    intro i a hi hI h
    have hiN : N = i := by omega
    rw [hiN] at h
    refine go_iload (q := 5) (gDec iX5_moveAll_ok 2 rfl) rfl rfl ?_
    refine go_aload_n (q := 6) (gDec iX5_moveAll_ok 3 rfl) rfl rfl rfl ?_
    refine go_iload_n (q := 7) (gDec iX5_moveAll_ok 4 rfl) rfl rfl rfl ?_
    refine go_callV (n2 := 0) (q := 10) kX5_55 (ctX5_contourCount (by omega)) (gDec iX5_moveAll_ok 5 rfl) rfl rfl (by decide) rfl rfl rfl (Nat.le_of_ble_eq_true rfl) rfl (gFit_rm (by decide) (by decide)) rfl ?_
    refine go_icmp_ge (t := 71) (q := 13) (gDec iX5_moveAll_ok 6 rfl) (by decide) rfl (fun c10 => ?_) (fun c10 => False.elim (c10 (by rw [(show a.1 6 g = nI N from (congrFun hI.2 _).trans hm)]; exact nI_le (by omega) (by omega))))
    refine go_sub (L' := [(0, .ref (κ.2.1 + 2)), (1, .int (nI g)), (2, .int dx), (3, .int dy), (4, .int (nI i))]) ⟨rfl, rfl, rfl, rfl, rfl, trivial⟩ ?_
    exact h
  | succ m ih =>
    intro i a hi hI h
    refine go_iload (q := 5) (gDec iX5_moveAll_ok 2 rfl) rfl rfl ?_
    refine go_aload_n (q := 6) (gDec iX5_moveAll_ok 3 rfl) rfl rfl rfl ?_
    refine go_iload_n (q := 7) (gDec iX5_moveAll_ok 4 rfl) rfl rfl rfl ?_
    refine go_callV (n2 := 0) (q := 10) kX5_55 (ctX5_contourCount (by omega)) (gDec iX5_moveAll_ok 5 rfl) rfl rfl (by decide) rfl rfl rfl (Nat.le_of_ble_eq_true rfl) rfl (gFit_rm (by decide) (by decide)) rfl ?_
    refine go_icmp_ge (t := 71) (q := 13) (gDec iX5_moveAll_ok 6 rfl) (by decide) rfl (fun c10 => False.elim (by rw [(show a.1 6 g = nI N from (congrFun hI.2 _).trans hm)] at c10; exact nI_ge (a := i) (b := N) (by omega) (by omega) c10)) (fun c10 => ?_)
    refine go_iconst (v := 0) (q := 14) (gDec iX5_moveAll_ok 7 rfl) (by decide) rfl ?_
    refine go_istore (q := 16) (gDec iX5_moveAll_ok 8 rfl) (by decide) rfl ?_
    refine go_sub (L' := [(0, .ref (κ.2.1 + 2)), (1, .int (nI g)), (2, .int dx), (3, .int dy), (4, .int (nI i)), (5, .int (nI 0))]) ⟨rfl, rfl, rfl, rfl, rfl, rfl, trivial⟩ ?_
    refine lpX5_move2 (σ := σ) hg (by omega) (hpm i (by omega)).2 (hpm i (by omega)).1 (pm i) 0 a (by omega) hI ?_
    refine go_iinc (v := nI (i + 1)) (q := 68) (gDec iX5_moveAll_ok 36 rfl) rfl (nI_1 i) (by decide) rfl ?_
    refine go_goto (t := 3) (gDec iX5_moveAll_ok 37 rfl) (by decide) ?_
    refine go_sub (L' := [(0, .ref (κ.2.1 + 2)), (1, .int (nI g)), (2, .int dx), (3, .int dy), (4, .int (nI (i + 1)))]) ⟨rfl, rfl, rfl, rfl, rfl, trivial⟩ ?_
    exact ih (i + 1) (gMvC g dx dy pm i a) (by omega) (gMvC_I g dx dy pm i a hI) h

set_option maxHeartbeats 4000000 in
set_option maxRecDepth 100000 in
theorem ctX5_moveAll {κ : gK} {σ : gST} {g N : Nat} {pm : Nat → Nat} {dx dy : Int32} (hg : g < 24) (hN : N ≤ 3) (hm : σ.1 6 g = nI N) (hpm : ∀ c, c < N → σ.1 8 (g * 3 + c) = nI (pm c) ∧ pm c ≤ 12) : gCt κ mX5_moveAll 3 [.ref (κ.2.1 + 2), .int (nI g), .int dx, .int dy] σ (.inl none) (gLoop (gMvC g dx dy pm) 0 N σ) 0 := by
  refine ct_of (by decide +kernel) rfl (Nat.le_of_ble_eq_true rfl) rfl ?_
  refine go_iconst (v := 0) (q := 1) (gDec iX5_moveAll_ok 0 rfl) (by decide) rfl ?_
  refine go_istore (q := 3) (gDec iX5_moveAll_ok 1 rfl) (by decide) rfl ?_
  refine go_sub (L' := [(0, .ref (κ.2.1 + 2)), (1, .int (nI g)), (2, .int dx), (3, .int dy), (4, .int (nI 0))]) ⟨rfl, rfl, rfl, rfl, rfl, trivial⟩ ?_
  refine lpX5_move1 (σ := σ) hg hN hm hpm N 0 σ (by omega) ⟨rfl, rfl⟩ ?_
  exact go_return (gDec iX5_moveAll_ok 38 rfl) rfl rfl rfl (by decide)
