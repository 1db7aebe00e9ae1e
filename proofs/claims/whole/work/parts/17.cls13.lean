/-- a new line of one word -/
def gNl (σ : gST) (n : Nat) (s w : Int32) : gST := gPut (gPut (gPut (gPut σ 371 n w) 373 n s) 375 n 1) 363 8 (nI (n + 1))
/-- the word from s on, w wide, onto the lines -/
def gPw (σ : gST) (s w me : Int32) : gST := match nA (σ.1 363 8) with
  | 0 => gNl σ 0 s w
  | k + 1 =>
    if σ.1 371 k + σ.1 363 7 + w ≤ me then gPut (gPut σ 371 k (σ.1 371 k + σ.1 363 7 + w)) 375 k (σ.1 375 k + 1)
    else gNl (gPut σ 363 9 (if σ.1 371 k + σ.1 363 7 + w < σ.1 363 9 then σ.1 371 k + σ.1 363 7 + w else σ.1 363 9)) (k + 1) s w

set_option maxHeartbeats 4000000 in
set_option maxRecDepth 100000 in
theorem ctX6_putWord {κ : gK} {σ : gST} {n : Nat} {s w me : Int32} (hn : σ.1 363 8 = nI n) (h60 : n < 60) : gCt κ mX6_putWord 1 [.ref (κ.2.1 + 363), .int s, .int w, .int me] σ (.inl none) (gPw σ s w me) 0 := by
  refine ct_of (by decide +kernel) rfl (Nat.le_of_ble_eq_true rfl) rfl ?_
  have hna : nA (σ.1 363 8) = n := by rw [hn]; exact nA_nI (by omega)
  cases n with
  | zero =>
    refine go_aload_n (q := 1) (gDec iX6_putWord_ok 0 rfl) rfl rfl rfl ?_
    refine go_geti (q := 4) fX6_42 (gDec iX6_putWord_ok 1 rfl) rfl (by decide) rfl ?_
    refine go_if_le (t := 92) (q := 7) (gDec iX6_putWord_ok 2 rfl) (by decide) rfl (fun c4 => ?_) (fun c4 => False.elim (c4 (by rw [hn]; decide)))
    refine go_aload_n (q := 93) (gDec iX6_putWord_ok 50 rfl) rfl rfl rfl ?_
    refine go_getr (r' := 370) (q := 96) fX6_26 (gDec iX6_putWord_ok 51 rfl) rfl (by decide) rfl ?_
    refine go_aload_n (q := 97) (gDec iX6_putWord_ok 52 rfl) rfl rfl rfl ?_
    refine go_geti (q := 100) fX6_42 (gDec iX6_putWord_ok 53 rfl) rfl (by decide) rfl ?_
    refine go_top (v' := nI 0) ((by simp [gPut_at, hn])) ?_
    refine go_iload_n (q := 101) (gDec iX6_putWord_ok 54 rfl) rfl rfl rfl ?_
    refine go_callV (n2 := 0) (q := 104) kX6_62 (ctX7_put (a := 371) rfl rfl (by decide) (by decide) (by omega) (by decide)) (gDec iX6_putWord_ok 55 rfl) rfl rfl (by decide) rfl rfl rfl (Nat.le_of_ble_eq_true rfl) rfl (gFit_rm (by decide) (by decide)) rfl ?_
    refine go_aload_n (q := 105) (gDec iX6_putWord_ok 56 rfl) rfl rfl rfl ?_
    refine go_getr (r' := 372) (q := 108) fX6_29 (gDec iX6_putWord_ok 57 rfl) rfl (by decide) rfl ?_
    refine go_aload_n (q := 109) (gDec iX6_putWord_ok 58 rfl) rfl rfl rfl ?_
    refine go_geti (q := 112) fX6_42 (gDec iX6_putWord_ok 59 rfl) rfl (by decide) rfl ?_
    refine go_top (v' := nI 0) ((by simp [gPut_at, hn])) ?_
    refine go_iload_n (q := 113) (gDec iX6_putWord_ok 60 rfl) rfl rfl rfl ?_
    refine go_callV (n2 := 0) (q := 116) kX6_62 (ctX7_put (a := 373) rfl rfl (by decide) (by decide) (by omega) (by decide)) (gDec iX6_putWord_ok 61 rfl) rfl rfl (by decide) rfl rfl rfl (Nat.le_of_ble_eq_true rfl) rfl (gFit_rm (by decide) (by decide)) rfl ?_
    refine go_aload_n (q := 117) (gDec iX6_putWord_ok 62 rfl) rfl rfl rfl ?_
    refine go_getr (r' := 374) (q := 120) fX6_32 (gDec iX6_putWord_ok 63 rfl) rfl (by decide) rfl ?_
    refine go_aload_n (q := 121) (gDec iX6_putWord_ok 64 rfl) rfl rfl rfl ?_
    refine go_geti (q := 124) fX6_42 (gDec iX6_putWord_ok 65 rfl) rfl (by decide) rfl ?_
    refine go_top (v' := nI 0) ((by simp [gPut_at, hn])) ?_
    refine go_iconst (v := 1) (q := 125) (gDec iX6_putWord_ok 66 rfl) (by decide) rfl ?_
    refine go_callV (n2 := 0) (q := 128) kX6_62 (ctX7_put (a := 375) rfl rfl (by decide) (by decide) (by omega) (by decide)) (gDec iX6_putWord_ok 67 rfl) rfl rfl (by decide) rfl rfl rfl (Nat.le_of_ble_eq_true rfl) rfl (gFit_rm (by decide) (by decide)) rfl ?_
    refine go_aload_n (q := 129) (gDec iX6_putWord_ok 68 rfl) rfl rfl rfl ?_
    refine go_dup (q := 130) (gDec iX6_putWord_ok 69 rfl) rfl rfl ?_
    refine go_geti (q := 133) fX6_42 (gDec iX6_putWord_ok 70 rfl) rfl (by decide) rfl ?_
    refine go_top (v' := nI 0) ((by simp [gPut_at, hn])) ?_
    refine go_iconst (v := 1) (q := 134) (gDec iX6_putWord_ok 71 rfl) (by decide) rfl ?_
    refine go_iadd (q := 135) (gDec iX6_putWord_ok 72 rfl) rfl ?_
    refine go_top (v' := nI (0 + 1)) (nI_1 0) ?_
    refine go_puti (q := 138) fX6_42 gft6 (gDec iX6_putWord_ok 73 rfl) rfl (by decide) rfl rfl rfl rfl ?_
    exact go_return (gDec iX6_putWord_ok 74 rfl) rfl rfl (by unfold gPw; rw [hna]; rfl) (by decide)
  | succ k =>
    refine go_aload_n (q := 1) (gDec iX6_putWord_ok 0 rfl) rfl rfl rfl ?_
    refine go_geti (q := 4) fX6_42 (gDec iX6_putWord_ok 1 rfl) rfl (by decide) rfl ?_
    refine go_if_le (t := 92) (q := 7) (gDec iX6_putWord_ok 2 rfl) (by decide) rfl (fun c4 => False.elim (by rw [hn] at c4; exact nI_nle (n := k + 1) (by omega) (by omega) c4)) (fun c4 => ?_)
    refine go_aload_n (q := 8) (gDec iX6_putWord_ok 3 rfl) rfl rfl rfl ?_
    refine go_getr (r' := 370) (q := 11) fX6_26 (gDec iX6_putWord_ok 4 rfl) rfl (by decide) rfl ?_
    refine go_aload_n (q := 12) (gDec iX6_putWord_ok 5 rfl) rfl rfl rfl ?_
    refine go_geti (q := 15) fX6_42 (gDec iX6_putWord_ok 6 rfl) rfl (by decide) rfl ?_
    refine go_top (v' := nI (k + 1)) (hn) ?_
    refine go_iconst (v := 1) (q := 16) (gDec iX6_putWord_ok 7 rfl) (by decide) rfl ?_
    refine go_isub (q := 17) (gDec iX6_putWord_ok 8 rfl) rfl ?_
    refine go_top (v' := nI k) (nI_pred k) ?_
    refine go_callV (n2 := 0) (q := 20) kX6_73 (ctX7_get (a := 371) rfl rfl (by decide) (by decide) (by omega) (by decide)) (gDec iX6_putWord_ok 9 rfl) rfl rfl (by decide) rfl rfl rfl (Nat.le_of_ble_eq_true rfl) rfl (gFit_rm (by decide) (by decide)) rfl ?_
    refine go_aload_n (q := 21) (gDec iX6_putWord_ok 10 rfl) rfl rfl rfl ?_
    refine go_geti (q := 24) fX6_39 (gDec iX6_putWord_ok 11 rfl) rfl (by decide) rfl ?_
    refine go_iadd (q := 25) (gDec iX6_putWord_ok 12 rfl) rfl ?_
    refine go_iload_n (q := 26) (gDec iX6_putWord_ok 13 rfl) rfl rfl rfl ?_
    refine go_iadd (q := 27) (gDec iX6_putWord_ok 14 rfl) rfl ?_
    refine go_istore (q := 29) (gDec iX6_putWord_ok 15 rfl) (by decide) rfl ?_
    refine go_iload (q := 31) (gDec iX6_putWord_ok 16 rfl) rfl rfl ?_
    refine go_iload_n (q := 32) (gDec iX6_putWord_ok 17 rfl) rfl rfl rfl ?_
    refine go_icmp_gt (t := 79) (q := 35) (gDec iX6_putWord_ok 18 rfl) (by decide) rfl (fun c32 => ?_) (fun c32 => ?_)
    · refine go_aload_n (q := 80) (gDec iX6_putWord_ok 44 rfl) rfl rfl rfl ?_
      refine go_aload_n (q := 81) (gDec iX6_putWord_ok 45 rfl) rfl rfl rfl ?_
      refine go_geti (q := 84) fX6_45 (gDec iX6_putWord_ok 46 rfl) rfl (by decide) rfl ?_
      refine go_iload (q := 86) (gDec iX6_putWord_ok 47 rfl) rfl rfl ?_
      refine go_min (q := 89) kX6_103 (gDec iX6_putWord_ok 48 rfl) (Nat.le_of_ble_eq_true rfl) (gFit_rm (by decide) (by decide)) rfl ?_
      refine go_puti (q := 92) fX6_45 gft6 (gDec iX6_putWord_ok 49 rfl) rfl (by decide) rfl rfl rfl rfl ?_
      refine go_aload_n (q := 93) (gDec iX6_putWord_ok 50 rfl) rfl rfl rfl ?_
      refine go_getr (r' := 370) (q := 96) fX6_26 (gDec iX6_putWord_ok 51 rfl) rfl (by decide) rfl ?_
      refine go_aload_n (q := 97) (gDec iX6_putWord_ok 52 rfl) rfl rfl rfl ?_
      refine go_geti (q := 100) fX6_42 (gDec iX6_putWord_ok 53 rfl) rfl (by decide) rfl ?_
      refine go_top (v' := nI (k + 1)) ((by simp [gPut_at, hn])) ?_
      refine go_iload_n (q := 101) (gDec iX6_putWord_ok 54 rfl) rfl rfl rfl ?_
      refine go_callV (n2 := 0) (q := 104) kX6_62 (ctX7_put (a := 371) rfl rfl (by decide) (by decide) (by omega) (by decide)) (gDec iX6_putWord_ok 55 rfl) rfl rfl (by decide) rfl rfl rfl (Nat.le_of_ble_eq_true rfl) rfl (gFit_rm (by decide) (by decide)) rfl ?_
      refine go_aload_n (q := 105) (gDec iX6_putWord_ok 56 rfl) rfl rfl rfl ?_
      refine go_getr (r' := 372) (q := 108) fX6_29 (gDec iX6_putWord_ok 57 rfl) rfl (by decide) rfl ?_
      refine go_aload_n (q := 109) (gDec iX6_putWord_ok 58 rfl) rfl rfl rfl ?_
      refine go_geti (q := 112) fX6_42 (gDec iX6_putWord_ok 59 rfl) rfl (by decide) rfl ?_
      refine go_top (v' := nI (k + 1)) ((by simp [gPut_at, hn])) ?_
      refine go_iload_n (q := 113) (gDec iX6_putWord_ok 60 rfl) rfl rfl rfl ?_
      refine go_callV (n2 := 0) (q := 116) kX6_62 (ctX7_put (a := 373) rfl rfl (by decide) (by decide) (by omega) (by decide)) (gDec iX6_putWord_ok 61 rfl) rfl rfl (by decide) rfl rfl rfl (Nat.le_of_ble_eq_true rfl) rfl (gFit_rm (by decide) (by decide)) rfl ?_
      refine go_aload_n (q := 117) (gDec iX6_putWord_ok 62 rfl) rfl rfl rfl ?_
      refine go_getr (r' := 374) (q := 120) fX6_32 (gDec iX6_putWord_ok 63 rfl) rfl (by decide) rfl ?_
      refine go_aload_n (q := 121) (gDec iX6_putWord_ok 64 rfl) rfl rfl rfl ?_
      refine go_geti (q := 124) fX6_42 (gDec iX6_putWord_ok 65 rfl) rfl (by decide) rfl ?_
      refine go_top (v' := nI (k + 1)) ((by simp [gPut_at, hn])) ?_
      refine go_iconst (v := 1) (q := 125) (gDec iX6_putWord_ok 66 rfl) (by decide) rfl ?_
      refine go_callV (n2 := 0) (q := 128) kX6_62 (ctX7_put (a := 375) rfl rfl (by decide) (by decide) (by omega) (by decide)) (gDec iX6_putWord_ok 67 rfl) rfl rfl (by decide) rfl rfl rfl (Nat.le_of_ble_eq_true rfl) rfl (gFit_rm (by decide) (by decide)) rfl ?_
      refine go_aload_n (q := 129) (gDec iX6_putWord_ok 68 rfl) rfl rfl rfl ?_
      refine go_dup (q := 130) (gDec iX6_putWord_ok 69 rfl) rfl rfl ?_
      refine go_geti (q := 133) fX6_42 (gDec iX6_putWord_ok 70 rfl) rfl (by decide) rfl ?_
      refine go_top (v' := nI (k + 1)) ((by simp [gPut_at, hn])) ?_
      refine go_iconst (v := 1) (q := 134) (gDec iX6_putWord_ok 71 rfl) (by decide) rfl ?_
      refine go_iadd (q := 135) (gDec iX6_putWord_ok 72 rfl) rfl ?_
      refine go_top (v' := nI ((k + 1) + 1)) (nI_1 (k + 1)) ?_
      refine go_puti (q := 138) fX6_42 gft6 (gDec iX6_putWord_ok 73 rfl) rfl (by decide) rfl rfl rfl rfl ?_
      exact go_return (gDec iX6_putWord_ok 74 rfl) rfl rfl (by unfold gPw; rw [hna]; exact if_neg (Int32.not_le.mpr c32)) (by decide)
    · refine go_aload_n (q := 36) (gDec iX6_putWord_ok 19 rfl) rfl rfl rfl ?_
      refine go_getr (r' := 370) (q := 39) fX6_26 (gDec iX6_putWord_ok 20 rfl) rfl (by decide) rfl ?_
      refine go_aload_n (q := 40) (gDec iX6_putWord_ok 21 rfl) rfl rfl rfl ?_
      refine go_geti (q := 43) fX6_42 (gDec iX6_putWord_ok 22 rfl) rfl (by decide) rfl ?_
      refine go_top (v' := nI (k + 1)) (hn) ?_
      refine go_iconst (v := 1) (q := 44) (gDec iX6_putWord_ok 23 rfl) (by decide) rfl ?_
      refine go_isub (q := 45) (gDec iX6_putWord_ok 24 rfl) rfl ?_
      refine go_top (v' := nI k) (nI_pred k) ?_
      refine go_iload (q := 47) (gDec iX6_putWord_ok 25 rfl) rfl rfl ?_
      refine go_callV (n2 := 0) (q := 50) kX6_62 (ctX7_put (a := 371) rfl rfl (by decide) (by decide) (by omega) (by decide)) (gDec iX6_putWord_ok 26 rfl) rfl rfl (by decide) rfl rfl rfl (Nat.le_of_ble_eq_true rfl) rfl (gFit_rm (by decide) (by decide)) rfl ?_
      refine go_aload_n (q := 51) (gDec iX6_putWord_ok 27 rfl) rfl rfl rfl ?_
      refine go_getr (r' := 374) (q := 54) fX6_32 (gDec iX6_putWord_ok 28 rfl) rfl (by decide) rfl ?_
      refine go_aload_n (q := 55) (gDec iX6_putWord_ok 29 rfl) rfl rfl rfl ?_
      refine go_geti (q := 58) fX6_42 (gDec iX6_putWord_ok 30 rfl) rfl (by decide) rfl ?_
      refine go_top (v' := nI (k + 1)) ((by simp [gPut_at, hn])) ?_
      refine go_iconst (v := 1) (q := 59) (gDec iX6_putWord_ok 31 rfl) (by decide) rfl ?_
      refine go_isub (q := 60) (gDec iX6_putWord_ok 32 rfl) rfl ?_
      refine go_top (v' := nI k) (nI_pred k) ?_
      refine go_aload_n (q := 61) (gDec iX6_putWord_ok 33 rfl) rfl rfl rfl ?_
      refine go_getr (r' := 374) (q := 64) fX6_32 (gDec iX6_putWord_ok 34 rfl) rfl (by decide) rfl ?_
      refine go_aload_n (q := 65) (gDec iX6_putWord_ok 35 rfl) rfl rfl rfl ?_
      refine go_geti (q := 68) fX6_42 (gDec iX6_putWord_ok 36 rfl) rfl (by decide) rfl ?_
      refine go_top (v' := nI (k + 1)) ((by simp [gPut_at, hn])) ?_
      refine go_iconst (v := 1) (q := 69) (gDec iX6_putWord_ok 37 rfl) (by decide) rfl ?_
      refine go_isub (q := 70) (gDec iX6_putWord_ok 38 rfl) rfl ?_
      refine go_top (v' := nI k) (nI_pred k) ?_
      refine go_callV (n2 := 0) (q := 73) kX6_73 (ctX7_get (a := 375) rfl rfl (by decide) (by decide) (by omega) (by decide)) (gDec iX6_putWord_ok 39 rfl) rfl rfl (by decide) rfl rfl rfl (Nat.le_of_ble_eq_true rfl) rfl (gFit_rm (by decide) (by decide)) rfl ?_
      refine go_top (v' := σ.1 375 k) (congrFun (gPut_ne _ _ _ (by decide)) _) ?_
      refine go_iconst (v := 1) (q := 74) (gDec iX6_putWord_ok 40 rfl) (by decide) rfl ?_
      refine go_iadd (q := 75) (gDec iX6_putWord_ok 41 rfl) rfl ?_
      refine go_callV (n2 := 0) (q := 78) kX6_62 (ctX7_put (a := 375) rfl rfl (by decide) (by decide) (by omega) (by decide)) (gDec iX6_putWord_ok 42 rfl) rfl rfl (by decide) rfl rfl rfl (Nat.le_of_ble_eq_true rfl) rfl (gFit_rm (by decide) (by decide)) rfl ?_
      exact go_return (gDec iX6_putWord_ok 43 rfl) rfl rfl (by unfold gPw; rw [hna]; exact if_pos (Int32.not_lt.mp c32)) (by decide)

/-- the same but for the lines -/
def gLA (σ a : gST) : Prop := (∀ k, k ≠ 371 → k ≠ 373 → k ≠ 375 → k ≠ 363 → a.1 k = σ.1 k) ∧ (∀ j, j ≠ 8 → j ≠ 9 → a.1 363 j = σ.1 363 j) ∧ a.2 = σ.2
theorem gLA.rf (σ : gST) : gLA σ σ := ⟨fun _ _ _ _ _ => rfl, fun _ _ _ => rfl, rfl⟩
theorem gLA.tr {σ τ υ : gST} (h : gLA σ τ) (h2 : gLA τ υ) : gLA σ υ := ⟨fun k a b c d => (h2.1 k a b c d).trans (h.1 k a b c d), fun j a b => (h2.2.1 j a b).trans (h.2.1 j a b), h2.2.2.trans h.2.2⟩
theorem gLA.put1 {σ a : gST} (h : gLA σ a) {b : Nat} (hb : b = 371 ∨ b = 373 ∨ b = 375) (i : Nat) (v : Int32) : gLA σ (gPut a b i v) :=
  ⟨fun k h1 h2 h3 h4 => (gPut_ne _ _ _ (by omega)).trans (h.1 k h1 h2 h3 h4), fun j h1 h2 => (congrFun (gPut_ne _ _ _ (by omega)) j).trans (h.2.1 j h1 h2), h.2.2⟩
theorem gLA.put2 {σ a : gST} (h : gLA σ a) {i : Nat} (hi : i = 8 ∨ i = 9) (v : Int32) : gLA σ (gPut a 363 i v) :=
  ⟨fun k h1 h2 h3 h4 => (gPut_ne _ _ _ h4).trans (h.1 k h1 h2 h3 h4), fun j h1 h2 => by rw [gPut_at, if_neg (by omega)]; exact h.2.1 j h1 h2, h.2.2⟩
theorem gNl_A {σ a : gST} (h : gLA σ a) (n : Nat) (s w : Int32) : gLA σ (gNl a n s w) :=
  (((h.put1 (by decide) _ _).put1 (by decide) _ _).put1 (by decide) _ _).put2 (by decide) _
theorem gPw_A {σ a : gST} (h : gLA σ a) (s w me : Int32) : gLA σ (gPw a s w me) := by
  unfold gPw
  split
  · exact gNl_A h _ _ _
  · split
    · exact (h.put1 (by decide) _ _).put1 (by decide) _ _
    · exact gNl_A (h.put2 (by decide) _) _ _ _
theorem gPw_n {a : gST} {n : Nat} (hn : a.1 363 8 = nI n) (h60 : n < 60) (s w me : Int32) : ∃ m, m ≤ n + 1 ∧ (gPw a s w me).1 363 8 = nI m := by
  have hna : nA (a.1 363 8) = n := by rw [hn]; exact nA_nI (by omega)
  unfold gPw
  rw [hna]
  cases n with
  | zero => exact ⟨1, by omega, by unfold gNl; rw [gPut_at, if_pos ⟨rfl, rfl⟩]⟩
  | succ k =>
    dsimp only
    split
    · exact ⟨k + 1, by omega, by rw [gPut_at, if_neg (by omega), gPut_at, if_neg (by omega)]; exact hn⟩
    · exact ⟨k + 2, by omega, by unfold gNl; rw [gPut_at, if_pos ⟨rfl, rfl⟩]⟩
theorem gLA.pw {σ a : gST} (h : gLA σ a) (hP : gPW σ) : gPW a := by
  unfold gPW at hP ⊢
  rw [h.1 365 (by decide) (by decide) (by decide) (by decide), h.2.1 6 (by decide) (by decide)]
  exact hP
theorem gLA.pg {σ a : gST} (h : gLA σ a) : gPg a = gPg σ := by
  funext i
  unfold gPg gPl_
  rw [h.1 365 (by decide) (by decide) (by decide) (by decide), h.2.1 6 (by decide) (by decide)]
/-- a sign seen while the lines are broken: where the word began, and the world -/
def gBlS (σ : gST) (me : Int32) (i : Nat) (a : Nat × gST) : Nat × gST := match gPg σ i with
  | none => (i + 1, a.2)
  | some _ => match gPg σ (i + 1) with
    | some _ => a
    | none => (a.1, gPw a.2 (nI a.1) (σ.1 369 i - σ.1 367 a.1) me)
abbrev gBlI (σ : gST) (i : Nat) (a : Nat × gST) : Prop := a.1 ≤ i ∧ gLA σ a.2 ∧ ∃ n, n ≤ i ∧ a.2.1 363 8 = nI n
theorem gBlS_I {σ : gST} {me : Int32} {i : Nat} {a : Nat × gST} (hi : i < 60) (h : gBlI σ i a) : gBlI σ (i + 1) (gBlS σ me i a) := by
  obtain ⟨h1, h2, n, h3, h4⟩ := h
  unfold gBlS
  split
  · exact ⟨Nat.le_refl _, h2, n, by omega, h4⟩
  · split
    · exact ⟨by omega, h2, n, by omega, h4⟩
    · obtain ⟨m, h5, h6⟩ := gPw_n h4 (by omega) (nI a.1) (σ.1 369 i - σ.1 367 a.1) me
      exact ⟨by show a.1 ≤ i + 1; omega, gPw_A h2 _ _ _, m, by omega, h6⟩
def gBr0 (σ : gST) : gST := gPut (gPut σ 363 8 0) 363 9 100001
def gBr (σ : gST) (me : Int32) : gST := (gLoop (gBlS (gBr0 σ) me) 0 (gPl_ σ) (0, gBr0 σ)).2
theorem gBr0_A (σ : gST) : gLA σ (gBr0 σ) := ((gLA.rf σ).put2 (by decide) _).put2 (by decide) _
theorem gBl_A {σ : gST} {me : Int32} : ∀ (m i : Nat) (a : Nat × gST), gLA σ a.2 → gLA σ (gLoop (gBlS σ me) i m a).2
  | 0, _, _, h => h
  | m + 1, i, a, h => by
    refine gBl_A m (i + 1) _ ?_
    unfold gBlS
    split
    · exact h
    · split
      · exact h
      · exact gPw_A h _ _ _
theorem gBr_A (σ : gST) (me : Int32) : gLA σ (gBr σ me) := (gBr0_A σ).tr (gBl_A _ _ _ (gLA.rf _))

set_option maxHeartbeats 4000000 in
set_option maxRecDepth 100000 in
theorem lpX6_break3 {κ : gK} {Z : gZ} {σ : gST} {me : Int32} {i : Nat} {a : Nat × gST} (hP : gPW σ) (hi : i < gPl_ σ) (hI : gBlI σ i a) (kk : Go κ mX6_breakLines (gRm 2 0) Z 71 [(0, .ref (κ.2.1 + 363)), (1, .int me), (2, .int (nI (gBlS σ me i a).1)), (3, .int (nI i))] [] (gBlS σ me i a).2 0) : Go κ mX6_breakLines (gRm 2 0) Z 23 [(0, .ref (κ.2.1 + 363)), (1, .int me), (2, .int (nI a.1)), (3, .int (nI i))] [] a.2 0 := by
  have h60 := hP.pl60
  have hs9 := hI.1
  cases hc : gPg σ i with
  | none =>
    refine go_aload_n (q := 24) (gDec iX6_breakLines_ok 14 rfl) rfl rfl rfl ?_
    refine go_iload_n (q := 25) (gDec iX6_breakLines_ok 15 rfl) rfl rfl rfl ?_
    refine go_callV (n2 := 0) (q := 28) kX6_79 (ctX6_isSpace (i := i) (hI.2.1.pw hP) (by omega)) (gDec iX6_breakLines_ok 16 rfl) rfl rfl (by decide) rfl rfl rfl (Nat.le_of_ble_eq_true rfl) rfl (gFit_rm (by decide) (by decide)) rfl ?_
    refine go_top (v' := if gPg σ i = none then 1 else 0) (by rw [hI.2.1.pg]) ?_
    refine go_if_eq (t := 38) (q := 31) (gDec iX6_breakLines_ok 17 rfl) (by decide) rfl (fun c28 => False.elim (by rw [if_pos hc] at c28; exact absurd c28 (by decide))) (fun c28 => ?_)
    refine go_iload_n (q := 32) (gDec iX6_breakLines_ok 18 rfl) rfl rfl rfl ?_
    refine go_iconst (v := 1) (q := 33) (gDec iX6_breakLines_ok 19 rfl) (by decide) rfl ?_
    refine go_iadd (q := 34) (gDec iX6_breakLines_ok 20 rfl) rfl ?_
    refine go_top (v' := nI (i + 1)) (nI_1 i) ?_
    refine go_istore_n (q := 35) (gDec iX6_breakLines_ok 21 rfl) rfl (by decide) rfl ?_
    refine go_goto (t := 71) (gDec iX6_breakLines_ok 22 rfl) (by decide) ?_
    rw [show gBlS σ me i a = (i + 1, a.2) from (by unfold gBlS; rw [hc])] at kk
    refine go_sub (L' := [(0, .ref (κ.2.1 + 363)), (1, .int me), (2, .int (nI (i + 1))), (3, .int (nI i))]) ⟨rfl, rfl, rfl, rfl, trivial⟩ ?_
    exact kk
  | some g =>
    have hpi : ¬ gPg σ i = none := by rw [hc]; intro h; cases h
    cases hn1 : gPg σ (i + 1) with
    | none =>
      obtain ⟨n, hnl, hl8⟩ := hI.2.2
      refine go_aload_n (q := 24) (gDec iX6_breakLines_ok 14 rfl) rfl rfl rfl ?_
      refine go_iload_n (q := 25) (gDec iX6_breakLines_ok 15 rfl) rfl rfl rfl ?_
      refine go_callV (n2 := 0) (q := 28) kX6_79 (ctX6_isSpace (i := i) (hI.2.1.pw hP) (by omega)) (gDec iX6_breakLines_ok 16 rfl) rfl rfl (by decide) rfl rfl rfl (Nat.le_of_ble_eq_true rfl) rfl (gFit_rm (by decide) (by decide)) rfl ?_
      refine go_top (v' := if gPg σ i = none then 1 else 0) (by rw [hI.2.1.pg]) ?_
      refine go_if_eq (t := 38) (q := 31) (gDec iX6_breakLines_ok 17 rfl) (by decide) rfl (fun c28 => ?_) (fun c28 => False.elim (by rw [if_neg hpi] at c28; exact c28 rfl))
      refine go_aload_n (q := 39) (gDec iX6_breakLines_ok 23 rfl) rfl rfl rfl ?_
      refine go_iload_n (q := 40) (gDec iX6_breakLines_ok 24 rfl) rfl rfl rfl ?_
      refine go_iconst (v := 1) (q := 41) (gDec iX6_breakLines_ok 25 rfl) (by decide) rfl ?_
      refine go_iadd (q := 42) (gDec iX6_breakLines_ok 26 rfl) rfl ?_
      refine go_top (v' := nI (i + 1)) (nI_1 i) ?_
      refine go_callV (n2 := 0) (q := 45) kX6_79 (ctX6_isSpace (i := i + 1) (hI.2.1.pw hP) (by omega)) (gDec iX6_breakLines_ok 27 rfl) rfl rfl (by decide) rfl rfl rfl (Nat.le_of_ble_eq_true rfl) rfl (gFit_rm (by decide) (by decide)) rfl ?_
      refine go_top (v' := if gPg σ (i + 1) = none then 1 else 0) (by rw [hI.2.1.pg]) ?_
      refine go_if_eq (t := 71) (q := 48) (gDec iX6_breakLines_ok 28 rfl) (by decide) rfl (fun c45 => False.elim (by rw [if_pos hn1] at c45; exact absurd c45 (by decide))) (fun c45 => ?_)
      refine go_aload_n (q := 49) (gDec iX6_breakLines_ok 29 rfl) rfl rfl rfl ?_
      refine go_iload_n (q := 50) (gDec iX6_breakLines_ok 30 rfl) rfl rfl rfl ?_
      refine go_aload_n (q := 51) (gDec iX6_breakLines_ok 31 rfl) rfl rfl rfl ?_
      refine go_getr (r' := 368) (q := 54) fX6_23 (gDec iX6_breakLines_ok 32 rfl) rfl (by decide) rfl ?_
      refine go_iload_n (q := 55) (gDec iX6_breakLines_ok 33 rfl) rfl rfl rfl ?_
      refine go_callV (n2 := 0) (q := 58) kX6_73 (ctX7_get (a := 369) rfl rfl (by decide) (by decide) (i := i) (by omega) (by decide)) (gDec iX6_breakLines_ok 34 rfl) rfl rfl (by decide) rfl rfl rfl (Nat.le_of_ble_eq_true rfl) rfl (gFit_rm (by decide) (by decide)) rfl ?_
      refine go_top (v' := σ.1 369 i) (congrFun (hI.2.1.1 369 (by decide) (by decide) (by decide) (by decide)) i) ?_
      refine go_aload_n (q := 59) (gDec iX6_breakLines_ok 35 rfl) rfl rfl rfl ?_
      refine go_getr (r' := 366) (q := 62) fX6_20 (gDec iX6_breakLines_ok 36 rfl) rfl (by decide) rfl ?_
      refine go_iload_n (q := 63) (gDec iX6_breakLines_ok 37 rfl) rfl rfl rfl ?_
      refine go_callV (n2 := 0) (q := 66) kX6_73 (ctX7_get (a := 367) rfl rfl (by decide) (by decide) (i := a.1) (by omega) (by decide)) (gDec iX6_breakLines_ok 38 rfl) rfl rfl (by decide) rfl rfl rfl (Nat.le_of_ble_eq_true rfl) rfl (gFit_rm (by decide) (by decide)) rfl ?_
      refine go_top (v' := σ.1 367 a.1) (congrFun (hI.2.1.1 367 (by decide) (by decide) (by decide) (by decide)) a.1) ?_
      refine go_isub (q := 67) (gDec iX6_breakLines_ok 39 rfl) rfl ?_
      refine go_iload_n (q := 68) (gDec iX6_breakLines_ok 40 rfl) rfl rfl rfl ?_
      refine go_callV (n2 := 0) (q := 71) kX6_94 (ctX6_putWord hl8 (by omega)) (gDec iX6_breakLines_ok 41 rfl) rfl rfl (by decide) rfl rfl rfl (Nat.le_of_ble_eq_true rfl) rfl (gFit_rm (by decide) (by decide)) rfl ?_
      rw [show gBlS σ me i a = (a.1, gPw a.2 (nI a.1) (σ.1 369 i - σ.1 367 a.1) me) from (by unfold gBlS; rw [hc, hn1])] at kk
      refine go_sub (L' := [(0, .ref (κ.2.1 + 363)), (1, .int me), (2, .int (nI a.1)), (3, .int (nI i))]) ⟨rfl, rfl, rfl, rfl, trivial⟩ ?_
      exact kk
    | some h =>
      have hpn : ¬ gPg σ (i + 1) = none := by rw [hn1]; intro h; cases h
      refine go_aload_n (q := 24) (gDec iX6_breakLines_ok 14 rfl) rfl rfl rfl ?_
      refine go_iload_n (q := 25) (gDec iX6_breakLines_ok 15 rfl) rfl rfl rfl ?_
      refine go_callV (n2 := 0) (q := 28) kX6_79 (ctX6_isSpace (i := i) (hI.2.1.pw hP) (by omega)) (gDec iX6_breakLines_ok 16 rfl) rfl rfl (by decide) rfl rfl rfl (Nat.le_of_ble_eq_true rfl) rfl (gFit_rm (by decide) (by decide)) rfl ?_
      refine go_top (v' := if gPg σ i = none then 1 else 0) (by rw [hI.2.1.pg]) ?_
      refine go_if_eq (t := 38) (q := 31) (gDec iX6_breakLines_ok 17 rfl) (by decide) rfl (fun c28 => ?_) (fun c28 => False.elim (by rw [if_neg hpi] at c28; exact c28 rfl))
      refine go_aload_n (q := 39) (gDec iX6_breakLines_ok 23 rfl) rfl rfl rfl ?_
      refine go_iload_n (q := 40) (gDec iX6_breakLines_ok 24 rfl) rfl rfl rfl ?_
      refine go_iconst (v := 1) (q := 41) (gDec iX6_breakLines_ok 25 rfl) (by decide) rfl ?_
      refine go_iadd (q := 42) (gDec iX6_breakLines_ok 26 rfl) rfl ?_
      refine go_top (v' := nI (i + 1)) (nI_1 i) ?_
      refine go_callV (n2 := 0) (q := 45) kX6_79 (ctX6_isSpace (i := i + 1) (hI.2.1.pw hP) (by omega)) (gDec iX6_breakLines_ok 27 rfl) rfl rfl (by decide) rfl rfl rfl (Nat.le_of_ble_eq_true rfl) rfl (gFit_rm (by decide) (by decide)) rfl ?_
      refine go_top (v' := if gPg σ (i + 1) = none then 1 else 0) (by rw [hI.2.1.pg]) ?_
      refine go_if_eq (t := 71) (q := 48) (gDec iX6_breakLines_ok 28 rfl) (by decide) rfl (fun c45 => ?_) (fun c45 => False.elim (by rw [if_neg hpn] at c45; exact c45 rfl))
      rw [show gBlS σ me i a = a from (by unfold gBlS; rw [hc, hn1])] at kk
      refine go_sub (L' := [(0, .ref (κ.2.1 + 363)), (1, .int me), (2, .int (nI a.1)), (3, .int (nI i))]) ⟨rfl, rfl, rfl, rfl, trivial⟩ ?_
      exact kk

set_option maxHeartbeats 4000000 in
set_option maxRecDepth 100000 in
theorem lpX6_break {κ : gK} {Z : gZ}  {σ : gST} {me : Int32} (hP : gPW σ) : ∀ (m i : Nat) (a : Nat × gST), i + m = (gPl_ σ) → gBlI σ i a → Go κ mX6_breakLines (gRm 2 0) Z 77 [(0, .ref (κ.2.1 + 363)), (1, .int me), (2, .int (nI (gLoop (gBlS σ me) i m a).1)), (3, .int (nI (gPl_ σ)))] [] (gLoop (gBlS σ me) i m a).2 0 → Go κ mX6_breakLines (gRm 2 0) Z 15 [(0, .ref (κ.2.1 + 363)), (1, .int me), (2, .int (nI a.1)), (3, .int (nI i))] [] a.2 0 := by
  intro m
  induction m with
  | zero =>
    intro i a hi hI h
    have h60 := hP.pl60
    have hiN : (gPl_ σ) = i := by omega
    rw [hiN] at h
    refine go_iload_n (q := 16) (gDec iX6_breakLines_ok 10 rfl) rfl rfl rfl ?_
    refine go_aload_n (q := 17) (gDec iX6_breakLines_ok 11 rfl) rfl rfl rfl ?_
    refine go_geti (q := 20) fX6_35 (gDec iX6_breakLines_ok 12 rfl) rfl (by decide) rfl ?_
    refine go_icmp_ge (t := 77) (q := 23) (gDec iX6_breakLines_ok 13 rfl) (by decide) rfl (fun c20 => ?_) (fun c20 => False.elim (c20 (by rw [((hI.2.1.2.1 6 (by decide) (by decide)).trans hP.pl)]; exact nI_le (by omega) (by omega))))
    refine go_sub (L' := [(0, .ref (κ.2.1 + 363)), (1, .int me), (2, .int (nI a.1)), (3, .int (nI i))]) ⟨rfl, rfl, rfl, rfl, trivial⟩ ?_
    exact h
  | succ m ih =>
    intro i a hi hI h
    have h60 := hP.pl60
    refine go_iload_n (q := 16) (gDec iX6_breakLines_ok 10 rfl) rfl rfl rfl ?_
    refine go_aload_n (q := 17) (gDec iX6_breakLines_ok 11 rfl) rfl rfl rfl ?_
    refine go_geti (q := 20) fX6_35 (gDec iX6_breakLines_ok 12 rfl) rfl (by decide) rfl ?_
    refine go_icmp_ge (t := 77) (q := 23) (gDec iX6_breakLines_ok 13 rfl) (by decide) rfl (fun c20 => False.elim (by rw [((hI.2.1.2.1 6 (by decide) (by decide)).trans hP.pl)] at c20; exact nI_ge (a := i) (b := (gPl_ σ)) (by omega) (by omega) c20)) (fun c20 => ?_)
    refine go_sub (L' := [(0, .ref (κ.2.1 + 363)), (1, .int me), (2, .int (nI a.1)), (3, .int (nI i))]) ⟨rfl, rfl, rfl, rfl, trivial⟩ ?_
    refine lpX6_break3 hP (by omega) hI ?_
    refine go_iinc (v := nI (i + 1)) (q := 74) (gDec iX6_breakLines_ok 42 rfl) rfl (nI_1 i) (by decide) rfl ?_
    refine go_goto (t := 15) (gDec iX6_breakLines_ok 43 rfl) (by decide) ?_
    refine go_sub (L' := [(0, .ref (κ.2.1 + 363)), (1, .int me), (2, .int (nI (gBlS σ me i a).1)), (3, .int (nI (i + 1)))]) ⟨rfl, rfl, rfl, rfl, trivial⟩ ?_
    exact ih (i + 1) (gBlS σ me i a) (by omega) (gBlS_I (by omega) hI) h

set_option maxHeartbeats 4000000 in
set_option maxRecDepth 100000 in
theorem ctX6_breakLines {κ : gK} {σ : gST} {me : Int32} (hP : gPW σ) : gCt κ mX6_breakLines 2 [.ref (κ.2.1 + 363), .int me] σ (.inl none) (gBr σ me) 0 := by
  have hA := gBr0_A σ
  have hP0 := hA.pw hP
  have hl0 : gPl_ (gBr0 σ) = gPl_ σ := by unfold gPl_; rw [hA.2.1 6 (by decide) (by decide)]
  refine ct_of (by decide +kernel) rfl (Nat.le_of_ble_eq_true rfl) rfl ?_
  refine go_aload_n (q := 1) (gDec iX6_breakLines_ok 0 rfl) rfl rfl rfl ?_
  refine go_iconst (v := 0) (q := 2) (gDec iX6_breakLines_ok 1 rfl) (by decide) rfl ?_
  refine go_puti (q := 5) fX6_42 gft6 (gDec iX6_breakLines_ok 2 rfl) rfl (by decide) rfl rfl rfl rfl ?_
  refine go_aload_n (q := 6) (gDec iX6_breakLines_ok 3 rfl) rfl rfl rfl ?_
  refine go_ldc (q := 8) wX6_93 (gDec iX6_breakLines_ok 4 rfl) rfl ?_
  refine go_puti (q := 11) fX6_45 gft6 (gDec iX6_breakLines_ok 5 rfl) rfl (by decide) rfl rfl rfl rfl ?_
  refine go_iconst (v := 0) (q := 12) (gDec iX6_breakLines_ok 6 rfl) (by decide) rfl ?_
  refine go_istore_n (q := 13) (gDec iX6_breakLines_ok 7 rfl) rfl (by decide) rfl ?_
  refine go_iconst (v := 0) (q := 14) (gDec iX6_breakLines_ok 8 rfl) (by decide) rfl ?_
  refine go_istore_n (q := 15) (gDec iX6_breakLines_ok 9 rfl) rfl (by decide) rfl ?_
  refine go_w (show _ = gBr0 σ from rfl) ?_
  refine go_sub (L' := [(0, .ref (κ.2.1 + 363)), (1, .int me), (2, .int (nI ((0 : Nat), gBr0 σ).1)), (3, .int (nI 0))]) ⟨rfl, rfl, rfl, rfl, trivial⟩ ?_
  refine lpX6_break hP0 (gPl_ σ) 0 ((0 : Nat), gBr0 σ) (by omega) ⟨Nat.le_refl 0, gLA.rf _, 0, Nat.le_refl 0, (by show (gPut (gPut σ 363 8 0) 363 9 100001).1 363 8 = _; rw [gPut_at, if_neg (by decide), gPut_at, if_pos ⟨rfl, rfl⟩]; rfl)⟩ ?_
  exact go_return (gDec iX6_breakLines_ok 44 rfl) rfl rfl rfl (by decide)

/-- the search of the least measure, from m on -/
def gLm (nn : Int32) : Nat → Int32 → gST → Int32 × gST
  | 0, _, w => (-1, w)
  | f + 1, m, w => if 100000 < m then (-1, w) else if (gBr w m).1 363 8 ≤ nn then (m, gBr w m) else gLm nn f ((gBr w m).1 363 9) (gBr w m)
theorem gLm_A {nn : Int32} : ∀ (f : Nat) (m : Int32) (w : gST), gLA w (gLm nn f m w).2
  | 0, _, w => gLA.rf w
  | f + 1, m, w => by
    unfold gLm
    split
    · exact gLA.rf w
    · split
      · exact gBr_A w m
      · exact (gBr_A w m).tr (gLm_A f _ _)

set_option maxHeartbeats 4000000 in
set_option maxRecDepth 100000 in
theorem lpX6_least {κ : gK} {nn : Int32} : ∀ (f i : Nat) (m : Int32) (w : gST), gPW w → i + f = 3600 → Go κ mX6_leastMeasureFor (gRm 3 0) (gZm κ (.inl (some (.int (gLm nn f m w).1))) (gLm nn f m w).2 0) 4 [(0, .ref (κ.2.1 + 363)), (1, .int nn), (2, .int m), (3, .int (nI i))] [] w 0 := by
  intro f
  induction f with
  | zero =>
    intro i m w hP hi
    have hi2 : i = 3600 := by omega
    subst hi2
    refine go_iload_n (q := 5) (gDec iX6_leastMeasureFor_ok 4 rfl) rfl rfl rfl ?_
    refine go_sipush (v := 3600) (q := 8) (gDec iX6_leastMeasureFor_ok 5 rfl) (by decide) rfl ?_
    refine go_icmp_ge (t := 43) (q := 11) (gDec iX6_leastMeasureFor_ok 6 rfl) (by decide) rfl (fun c8 => ?_) (fun c8 => False.elim (c8 (by decide)))
    refine go_iconst (v := (-1)) (q := 44) (gDec iX6_leastMeasureFor_ok 24 rfl) (by decide) rfl ?_
    exact go_ireturn (gDec iX6_leastMeasureFor_ok 25 rfl) rfl rfl rfl rfl (by decide)
  | succ f ih =>
    intro i m w hP hi
    unfold gLm
    by_cases h1 : 100000 < m
    · rw [if_pos h1]
      refine go_iload_n (q := 5) (gDec iX6_leastMeasureFor_ok 4 rfl) rfl rfl rfl ?_
      refine go_sipush (v := 3600) (q := 8) (gDec iX6_leastMeasureFor_ok 5 rfl) (by decide) rfl ?_
      refine go_icmp_ge (t := 43) (q := 11) (gDec iX6_leastMeasureFor_ok 6 rfl) (by decide) rfl (fun c8 => False.elim (nI_ge (a := i) (b := 3600) (by omega) (by decide) c8)) (fun c8 => ?_)
      refine go_iload_n (q := 12) (gDec iX6_leastMeasureFor_ok 7 rfl) rfl rfl rfl ?_
      refine go_ldc (q := 14) wX6_98 (gDec iX6_leastMeasureFor_ok 8 rfl) rfl ?_
      refine go_icmp_gt (t := 43) (q := 17) (gDec iX6_leastMeasureFor_ok 9 rfl) (by decide) rfl (fun c14 => ?_) (fun c14 => False.elim (c14 h1))
      refine go_iconst (v := (-1)) (q := 44) (gDec iX6_leastMeasureFor_ok 24 rfl) (by decide) rfl ?_
      exact go_ireturn (gDec iX6_leastMeasureFor_ok 25 rfl) rfl rfl rfl rfl (by decide)
    · rw [if_neg h1]
      by_cases h2 : (gBr w m).1 363 8 ≤ nn
      · rw [if_pos h2]
        refine go_iload_n (q := 5) (gDec iX6_leastMeasureFor_ok 4 rfl) rfl rfl rfl ?_
        refine go_sipush (v := 3600) (q := 8) (gDec iX6_leastMeasureFor_ok 5 rfl) (by decide) rfl ?_
        refine go_icmp_ge (t := 43) (q := 11) (gDec iX6_leastMeasureFor_ok 6 rfl) (by decide) rfl (fun c8 => False.elim (nI_ge (a := i) (b := 3600) (by omega) (by decide) c8)) (fun c8 => ?_)
        refine go_iload_n (q := 12) (gDec iX6_leastMeasureFor_ok 7 rfl) rfl rfl rfl ?_
        refine go_ldc (q := 14) wX6_98 (gDec iX6_leastMeasureFor_ok 8 rfl) rfl ?_
        refine go_icmp_gt (t := 43) (q := 17) (gDec iX6_leastMeasureFor_ok 9 rfl) (by decide) rfl (fun c14 => False.elim (h1 c14)) (fun c14 => ?_)
        refine go_aload_n (q := 18) (gDec iX6_leastMeasureFor_ok 10 rfl) rfl rfl rfl ?_
        refine go_iload_n (q := 19) (gDec iX6_leastMeasureFor_ok 11 rfl) rfl rfl rfl ?_
        refine go_callV (n2 := 0) (q := 22) kX6_99 (ctX6_breakLines hP) (gDec iX6_leastMeasureFor_ok 12 rfl) rfl rfl (by decide) rfl rfl rfl (Nat.le_of_ble_eq_true rfl) rfl (gFit_rm (by decide) (by decide)) rfl ?_
        refine go_aload_n (q := 23) (gDec iX6_leastMeasureFor_ok 13 rfl) rfl rfl rfl ?_
        refine go_geti (q := 26) fX6_42 (gDec iX6_leastMeasureFor_ok 14 rfl) rfl (by decide) rfl ?_
        refine go_iload_n (q := 27) (gDec iX6_leastMeasureFor_ok 15 rfl) rfl rfl rfl ?_
        refine go_icmp_gt (t := 32) (q := 30) (gDec iX6_leastMeasureFor_ok 16 rfl) (by decide) rfl (fun c27 => False.elim (absurd h2 (Int32.not_le.mpr c27))) (fun c27 => ?_)
        refine go_iload_n (q := 31) (gDec iX6_leastMeasureFor_ok 17 rfl) rfl rfl rfl ?_
        exact go_ireturn (gDec iX6_leastMeasureFor_ok 18 rfl) rfl rfl rfl rfl (by decide)
      · rw [if_neg h2]
        refine go_iload_n (q := 5) (gDec iX6_leastMeasureFor_ok 4 rfl) rfl rfl rfl ?_
        refine go_sipush (v := 3600) (q := 8) (gDec iX6_leastMeasureFor_ok 5 rfl) (by decide) rfl ?_
        refine go_icmp_ge (t := 43) (q := 11) (gDec iX6_leastMeasureFor_ok 6 rfl) (by decide) rfl (fun c8 => False.elim (nI_ge (a := i) (b := 3600) (by omega) (by decide) c8)) (fun c8 => ?_)
        refine go_iload_n (q := 12) (gDec iX6_leastMeasureFor_ok 7 rfl) rfl rfl rfl ?_
        refine go_ldc (q := 14) wX6_98 (gDec iX6_leastMeasureFor_ok 8 rfl) rfl ?_
        refine go_icmp_gt (t := 43) (q := 17) (gDec iX6_leastMeasureFor_ok 9 rfl) (by decide) rfl (fun c14 => False.elim (h1 c14)) (fun c14 => ?_)
        refine go_aload_n (q := 18) (gDec iX6_leastMeasureFor_ok 10 rfl) rfl rfl rfl ?_
        refine go_iload_n (q := 19) (gDec iX6_leastMeasureFor_ok 11 rfl) rfl rfl rfl ?_
        refine go_callV (n2 := 0) (q := 22) kX6_99 (ctX6_breakLines hP) (gDec iX6_leastMeasureFor_ok 12 rfl) rfl rfl (by decide) rfl rfl rfl (Nat.le_of_ble_eq_true rfl) rfl (gFit_rm (by decide) (by decide)) rfl ?_
        refine go_aload_n (q := 23) (gDec iX6_leastMeasureFor_ok 13 rfl) rfl rfl rfl ?_
        refine go_geti (q := 26) fX6_42 (gDec iX6_leastMeasureFor_ok 14 rfl) rfl (by decide) rfl ?_
        refine go_iload_n (q := 27) (gDec iX6_leastMeasureFor_ok 15 rfl) rfl rfl rfl ?_
        refine go_icmp_gt (t := 32) (q := 30) (gDec iX6_leastMeasureFor_ok 16 rfl) (by decide) rfl (fun c27 => ?_) (fun c27 => False.elim (c27 (Int32.not_le.mp h2)))
        refine go_aload_n (q := 33) (gDec iX6_leastMeasureFor_ok 19 rfl) rfl rfl rfl ?_
        refine go_geti (q := 36) fX6_45 (gDec iX6_leastMeasureFor_ok 20 rfl) rfl (by decide) rfl ?_
        refine go_istore_n (q := 37) (gDec iX6_leastMeasureFor_ok 21 rfl) rfl (by decide) rfl ?_
        refine go_iinc (v := nI (i + 1)) (q := 40) (gDec iX6_leastMeasureFor_ok 22 rfl) rfl (nI_1 i) (by decide) rfl ?_
        refine go_goto (t := 4) (gDec iX6_leastMeasureFor_ok 23 rfl) (by decide) ?_
        refine go_sub (L' := [(0, .ref (κ.2.1 + 363)), (1, .int nn), (2, .int ((gBr w m).1 363 9)), (3, .int (nI (i + 1)))]) ⟨rfl, rfl, rfl, rfl, trivial⟩ ?_
        exact ih (i + 1) _ _ ((gBr_A w m).pw hP) (by omega)

set_option maxHeartbeats 4000000 in
set_option maxRecDepth 100000 in
theorem ctX6_leastMeasureFor {κ : gK} {σ : gST} {nn : Int32} (hP : gPW σ) : gCt κ mX6_leastMeasureFor 3 [.ref (κ.2.1 + 363), .int nn] σ (.inl (some (.int (gLm nn 3600 1 σ).1))) (gLm nn 3600 1 σ).2 0 := by
  refine ct_of (by decide +kernel) rfl (Nat.le_of_ble_eq_true rfl) rfl ?_
  refine go_iconst (v := 1) (q := 1) (gDec iX6_leastMeasureFor_ok 0 rfl) (by decide) rfl ?_
  refine go_istore_n (q := 2) (gDec iX6_leastMeasureFor_ok 1 rfl) rfl (by decide) rfl ?_
  refine go_iconst (v := 0) (q := 3) (gDec iX6_leastMeasureFor_ok 2 rfl) (by decide) rfl ?_
  refine go_istore_n (q := 4) (gDec iX6_leastMeasureFor_ok 3 rfl) rfl (by decide) rfl ?_
  refine go_sub (L' := [(0, .ref (κ.2.1 + 363)), (1, .int nn), (2, .int 1), (3, .int (nI 0))]) ⟨rfl, rfl, rfl, rfl, trivial⟩ ?_
  exact lpX6_least 3600 0 1 σ hP (by omega)
