/-- more places than values: two are alike -/
theorem pH : ∀ (n m : Nat) (f : Nat → Nat), (∀ k, k < m → f k < n) → (∀ k l, k < m → l < m → f k = f l → k = l) → m ≤ n
  | 0, m, f, h, _ => by
    rcases Nat.eq_zero_or_pos m with h0 | h0
    · omega
    · exact absurd (h 0 h0) (Nat.not_lt_zero _)
  | n + 1, m, f, h, hi => by
    by_cases hk : ∃ k, k < m ∧ f k = n
    · obtain ⟨k0, hk0, he⟩ := hk
      have h1 := pH n (m - 1) (fun k => f (if k < k0 then k else k + 1)) (fun k hk => by
        have h2 := h (if k < k0 then k else k + 1) (by split <;> omega)
        have h3 : ¬ f (if k < k0 then k else k + 1) = n := fun h9 => by
          have := hi _ k0 (by split <;> omega) hk0 (h9.trans he.symm)
          split at this <;> omega
        omega) (fun k l hk hl hkl => by
        have h4 := hi _ _ (by split <;> omega) (by split <;> omega) hkl
        split at h4 <;> split at h4 <;> omega)
      omega
    · have h1 := pH n m f (fun k hk2 => by
        have h2 := h k hk2
        have h3 : ¬ f k = n := fun h9 => hk ⟨k, hk2, h9⟩
        omega) hi
      omega
/-- the chain from a ends after just f rules -/
def gEq (ld : Nat → Option Nat) : Nat → Nat → Prop
  | 0, a => ld a = none
  | f + 1, a => ∃ b, ld a = some b ∧ gEq ld f b
theorem gEq_of {ld : Nat → Option Nat} : ∀ (F a : Nat), gEn ld F a → ∃ f, f ≤ F ∧ gEq ld f a
  | 0, a, h => ⟨0, Nat.le_refl _, h⟩
  | F + 1, a, h => by
    cases hl : ld a with
    | none => exact ⟨0, Nat.zero_le _, hl⟩
    | some b =>
      obtain ⟨f, h1, h2⟩ := gEq_of F b (h b hl)
      exact ⟨f + 1, by omega, b, hl, h2⟩
theorem gEq_u {ld : Nat → Option Nat} : ∀ (f g a : Nat), gEq ld f a → gEq ld g a → f = g
  | 0, 0, _, _, _ => rfl
  | 0, g + 1, a, h1, ⟨b, h2, _⟩ => by rw [show ld a = none from h1] at h2; cases h2
  | f + 1, 0, a, ⟨b, h2, _⟩, h1 => by rw [show ld a = none from h1] at h2; cases h2
  | f + 1, g + 1, a, ⟨b, h1, h2⟩, ⟨c, h3, h4⟩ => by
    rw [h1] at h3
    cases h3
    rw [gEq_u f g b h2 h4]
theorem gEq_n {ld : Nat → Option Nat} : ∀ (f F a : Nat), gEq ld f a → f ≤ F → gEn ld F a
  | 0, 0, a, h, _ => h
  | 0, F + 1, a, h, _ => fun b hb => by rw [show ld a = none from h] at hb; cases hb
  | f + 1, F + 1, a, ⟨b, h1, h2⟩, hF => fun c hc => by
    rw [h1] at hc
    cases hc
    exact gEq_n f F b h2 (by omega)
  | f + 1, 0, a, _, hF => by omega
def gNd (ld : Nat → Option Nat) (a : Nat) : Nat → Nat
  | 0 => a
  | k + 1 => (ld (gNd ld a k)).getD 0
theorem gNd_q {ld : Nat → Option Nat} {N a f : Nat} (hb : ∀ a b, a < N → ld a = some b → b < N) (ha : a < N) (h : gEq ld f a) : ∀ k, k ≤ f → gEq ld (f - k) (gNd ld a k) ∧ gNd ld a k < N
  | 0, _ => ⟨h, ha⟩
  | k + 1, hk => by
    obtain ⟨h1, h2⟩ := gNd_q hb ha h k (by omega)
    rw [show f - k = (f - (k + 1)) + 1 by omega] at h1
    obtain ⟨b, h3, h4⟩ := h1
    have e : gNd ld a (k + 1) = b := by
      show (ld (gNd ld a k)).getD 0 = b
      rw [h3]
      rfl
    rw [e]
    exact ⟨h4, hb _ _ h2 h3⟩
/-- a chain that ends, ends soon -/
theorem gEn_47 {ld : Nat → Option Nat} {N F a : Nat} (hN : N ≤ 48) (hb : ∀ a b, a < N → ld a = some b → b < N) (ha : a < N) (h : gEn ld F a) : gEn ld 47 a := by
  obtain ⟨f, -, hf⟩ := gEq_of F a h
  have h1 := pH N (f + 1) (gNd ld a) (fun k hk => (gNd_q hb ha hf k (by omega)).2) (fun k l hk hl he => by
    have q1 := (gNd_q hb ha hf k (by omega)).1
    have q2 := (gNd_q hb ha hf l (by omega)).1
    rw [he] at q1
    have := gEq_u _ _ _ q1 q2
    omega)
  exact gEq_n f 47 a hf (by omega)
theorem gEn_L {ld ld' : Nat → Option Nat} {G : Nat} (hn : ∀ a, a ≠ G → ld' a = ld a) : ∀ (f F a : Nat), gEn ld f a → f + 2 ≤ F → gLd ld G F (some a) = false → gEn ld' f a
  | 0, F, a, h, hF, hl => by
    obtain ⟨F1, rfl⟩ : ∃ F1, F = F1 + 1 := ⟨F - 1, by omega⟩
    unfold gLd at hl
    cases hb : Nat.beq a G with
    | true => rw [hb] at hl; cases hl
    | false => exact (hn a (Nat.ne_of_beq_eq_false hb)).trans h
  | f + 1, F, a, h, hF, hl => by
    obtain ⟨F1, rfl⟩ : ∃ F1, F = F1 + 1 := ⟨F - 1, by omega⟩
    unfold gLd at hl
    cases hb : Nat.beq a G with
    | true => rw [hb] at hl; cases hl
    | false =>
      rw [hb] at hl
      intro b hb2
      have h2 : ld a = some b := (hn a (Nat.ne_of_beq_eq_false hb)).symm.trans hb2
      refine gEn_L hn f F1 b (h b h2) (by omega) ?_
      rw [h2] at hl
      exact hl
theorem gEn_mono {ld : Nat → Option Nat} : ∀ (f F a : Nat), gEn ld f a → f ≤ F → gEn ld F a := fun f F a h hF => by
  obtain ⟨f0, h1, h2⟩ := gEq_of f a h
  exact gEq_n f0 F a h2 (by omega)
theorem gEn_new {ld ld' : Nat → Option Nat} {G L : Nat} (hn : ∀ a, a ≠ G → ld' a = ld a) (hG : ld' G = some L) (hL : gEn ld' 47 L) : ∀ (f a : Nat), gEn ld f a → gEn ld' (f + 48) a
  | f, a, h => by
    by_cases ha : a = G
    · subst ha
      refine gEn_mono 48 (f + 48) a (fun b hb => ?_) (by omega)
      rw [hG] at hb
      cases hb
      exact hL
    · cases f with
      | zero => exact gEq_n 0 (0 + 48) a ((hn a ha).trans h) (by omega)
      | succ f =>
        rw [show f + 1 + 48 = (f + 48) + 1 by omega]
        intro b hb
        exact gEn_new hn hG hL f b (h b ((hn a ha).symm.trans hb))

theorem mt_follow {ρ : gST} {s : Nat → Int32} {i j k l : Nat} {d : Int32} (hC : gCI ρ) (hM : gMR ρ s) (hi : i < gNg ρ) (hj : j < 2) (hk : k < gNg ρ) (hl : l < 2) (hno : gLd (gLe ρ) (i * 2 + j) 49 (some (k * 2 + l)) = false) :
    gCI (gPut (gPut ρ 17 (i * 2 + j) (nI (k * 2 + l))) 19 (i * 2 + j) d) ∧ gMR (gPut (gPut ρ 17 (i * 2 + j) (nI (k * 2 + l))) 19 (i * 2 + j) d) (upd (upd (upd s (196 + 96 * i + (77 + 4 * j + 1)) (nI k)) (196 + 96 * i + (77 + 4 * j + 2)) (nI l)) (196 + 96 * i + (77 + 4 * j + 3)) d) := by
  have hW := hC.dw
  have h24 := hW.ng24
  obtain ⟨τ', hτ⟩ : ∃ τ', τ' = (gPut (gPut ρ 17 (i * 2 + j) (nI (k * 2 + l))) 19 (i * 2 + j) d) := ⟨_, rfl⟩
  have ho : ∀ k, k ≠ 17 → k ≠ 19 → τ'.1 k = ρ.1 k := fun k q1 q2 => by rw [hτ, gPut_ne _ _ _ q2, gPut_ne _ _ _ q1]
  have e17 : ∀ a, τ'.1 17 a = if a = i * 2 + j then nI (k * 2 + l) else ρ.1 17 a := fun a => by rw [hτ, gPut_ne _ _ _ (by decide), gPut_s, uN]
  have e19 : ∀ a, τ'.1 19 a = if a = i * 2 + j then d else ρ.1 19 a := fun a => by rw [hτ, gPut_s, uN, gPut_ne _ _ _ (by decide)]
  have el : ∀ a, gLe τ' a = if a = i * 2 + j then some (k * 2 + l) else gLe ρ a := fun a => by
    unfold gLe
    rw [e17]
    split
    · unfold oA
      rw [nI_toInt (by omega), if_neg (by omega)]
      rfl
    · rfl
  rw [← hτ]
  have eng : gNg τ' = gNg ρ := by unfold gNg; rw [ho 2 (by decide) (by decide)]
  have hlb : ∀ a b, a < 2 * gNg ρ → gLe τ' a = some b → b < 2 * gNg ρ := fun a b ha hb => by
    rw [el] at hb
    split at hb
    · cases hb; omega
    · exact hC.lw.1 a b ha hb
  have hLe : gEn (gLe τ') 47 (k * 2 + l) := gEn_L (G := i * 2 + j) (fun a ha => by rw [el, if_neg ha]) 47 49 _ (hC.lw.2.1 _ (by omega)) (by omega) hno
  refine ⟨⟨⟨?_, ?_, ?_, ?_, ?_, ?_, ?_⟩, ⟨?_, ?_, ?_⟩, ?_, ⟨?_, ?_⟩, ?_, ?_⟩, ?_⟩
  · rw [ho 2 (by decide) (by decide)]; exact hW.1
  · rw [ho 6 (by decide) (by decide)]; exact hW.2.1
  · rw [ho 8 (by decide) (by decide)]; exact hW.2.2.1
  · intro a ha
    rw [e17]
    split
    · rw [nI_toInt (by omega)]; omega
    · exact hW.2.2.2.1 a ha
  · rw [ho 22 (by decide) (by decide)]; exact hW.2.2.2.2.1
  · rw [ho 24 (by decide) (by decide)]; exact hW.2.2.2.2.2.1
  · rw [ho 31 (by decide) (by decide)]; exact hW.2.2.2.2.2.2
  · rw [eng]; exact hlb
  · rw [eng]
    intro a ha
    refine gEn_47 (N := 2 * gNg ρ) (F := 47 + 48) (by omega) hlb ha ?_
    exact gEn_new (G := i * 2 + j) (fun a ha => by rw [el, if_neg ha]) (by rw [el, if_pos rfl]) hLe 47 a (hC.lw.2.1 a ha)
  · rw [eng]
    intro a ha ha2
    rw [el, if_neg (by omega)]
    exact hC.lw.2.2 a ha ha2
  · exact hC.po.c (ho 2 (by decide) (by decide)) (ho 6 (by decide) (by decide)) (ho 8 (by decide) (by decide)) (ho 10 (by decide) (by decide)) (ho 12 (by decide) (by decide))
  · rw [eng, ho 4 (by decide) (by decide)]; exact hC.gw.1
  · rw [eng, ho 6 (by decide) (by decide), ho 31 (by decide) (by decide), ho 22 (by decide) (by decide), ho 24 (by decide) (by decide), ho 15 (by decide) (by decide)]
    exact hC.gw.2
  · exact hC.sw.c (ho 2 (by decide) (by decide)) (ho 31 (by decide) (by decide)) (ho 33 (by decide) (by decide)) (ho 35 (by decide) (by decide))
  · exact hC.kw.c (ho 26 (by decide) (by decide)) (ho 28 (by decide) (by decide)) (ho 20 (by decide) (by decide)) (ho 1 (by decide) (by decide))
  · refine hM.upd (ho 1 (by decide) (by decide)) (ho 2 (by decide) (by decide)) (ho 20 (by decide) (by decide)) (ho 26 (by decide) (by decide)) (ho 28 (by decide) (by decide)) (fun x hx => by rw [uN, if_neg (by omega), uN, if_neg (by omega), uN, if_neg (by omega)]) (fun g hg hG => ?_)
    by_cases hgi : g = i
    · subst hgi
      refine hG.new_sid hW (by omega) (ho 6 (by decide) (by decide)) (ho 8 (by decide) (by decide)) (ho 10 (by decide) (by decide)) (ho 12 (by decide) (by decide)) (ho 22 (by decide) (by decide)) (ho 24 (by decide) (by decide)) (ho 31 (by decide) (by decide)) (ho 33 (by decide) (by decide)) (ho 35 (by decide) (by decide)) (ho 4 (by decide) (by decide))
        (fun x q1 q2 q3 => by rw [uN, if_neg (by omega), uN, if_neg (by omega), uN, if_neg (by omega)]) (fun t ht => ?_)
      obtain ⟨p1, p2, p3⟩ := hG.2.2.2.1 t ht
      by_cases htj : t = j
      · subst htj
        refine ⟨?_, ?_, fun b hb => ?_⟩
        · rw [uN, if_neg (by omega), uN, if_neg (by omega), uN, if_neg (by omega), ho 15 (by decide) (by decide)]; exact p1
        · rw [uN, if_neg (by omega), uN, if_neg (by omega), uN, if_pos rfl, el, if_pos rfl]
          show nI k = nI ((k * 2 + l) / 2)
          exact congrArg nI (by omega)
        · rw [el, if_pos rfl] at hb
          cases hb
          refine ⟨?_, ?_⟩
          · rw [uN, if_neg (by omega), uN, if_pos rfl]; exact congrArg nI (by omega)
          · rw [uN, if_pos rfl, e19, if_pos rfl]
      · rw [el, if_neg (by omega), ho 15 (by decide) (by decide), e19, if_neg (by omega)]
        refine ⟨?_, ?_, fun b hb => ?_⟩
        · rw [uN, if_neg (by omega), uN, if_neg (by omega), uN, if_neg (by omega)]; exact p1
        · rw [uN, if_neg (by omega), uN, if_neg (by omega), uN, if_neg (by omega)]; exact p2
        · obtain ⟨r1, r2⟩ := p3 b hb
          exact ⟨by rw [uN, if_neg (by omega), uN, if_neg (by omega), uN, if_neg (by omega)]; exact r1, by rw [uN, if_neg (by omega), uN, if_neg (by omega), uN, if_neg (by omega)]; exact r2⟩
    · exact hG.same hW (by omega) (fun x q1 q2 => by rw [uN, if_neg (by omega), uN, if_neg (by omega), uN, if_neg (by omega)]) (congrFun (ho 4 (by decide) (by decide)) _) (congrFun (ho 6 (by decide) (by decide)) _) (fun _ _ => congrFun (ho 8 (by decide) (by decide)) _) (fun _ _ => congrFun (ho 10 (by decide) (by decide)) _) (fun _ _ => congrFun (ho 12 (by decide) (by decide)) _) (fun _ _ => congrFun (ho 15 (by decide) (by decide)) _) (fun t ht => by rw [e17, if_neg (by omega)]) (fun t ht => by rw [e19, if_neg (by omega)]) (congrFun (ho 22 (by decide) (by decide)) _) (congrFun (ho 24 (by decide) (by decide)) _) (congrFun (ho 31 (by decide) (by decide)) _) (fun _ _ => congrFun (ho 33 (by decide) (by decide)) _) (fun _ _ => congrFun (ho 35 (by decide) (by decide)) _)

set_option maxHeartbeats 4000000 in
set_option maxRecDepth 100000 in
theorem okw_follow {κ : gK} {σ τ : gST} {i j k l : Nat} {d : Int32} (h : gAll τ σ) (h1 : gInS τ (nI i) (nI j)) (h1b : gInS τ (nI k) (nI l)) (hi : i < gNg τ) (hj : j < 2) (hk : k < gNg τ) (hl : l < 2) (h2 : -200 ≤ d.toInt ∧ d.toInt ≤ 200) (hno : gLd (gLe τ) (i * 2 + j) 49 (some (k * 2 + l)) = false) : gCt κ mX11_follow 9 [.ref (κ.2.1 + 376), .int (nI i), .int (nI j), .int (nI k), .int (nI l), .int d] σ (rI (gSd (gFolW τ i j (k * 2 + l) d) (i * 2 + j))) (gPut (gPut (gPut (gChg (gPut σ 376 5 0) (nA (τ.1 71 2))) 377 (196 + 96 * i + (77 + 4 * j + 1)) (nI k)) 377 (196 + 96 * i + (77 + 4 * j + 2)) (nI l)) 377 (196 + 96 * i + (77 + 4 * j + 3)) d) 0 := by
  have hC := h.ci
  have hM := h.mr
  have hW := hC.dw
  have h24 := hW.ng24
  have eRl : gLe (gRem τ) = gLe τ := by funext a; unfold gLe; rw [(gRem_D τ) 17 (by decide)]
  obtain ⟨m1, m2⟩ := mt_follow (d := d) (gRem_ci hC) (gRem_mr hC hM) (by rw [gRem_ng]; exact hi) hj (by rw [gRem_ng]; exact hk) hl (by rw [eRl]; exact hno)
  have eng : gNg (gFolW τ i j (k * 2 + l) d) = gNg τ := by
    have : gNg (gFolW τ i j (k * 2 + l) d) = gNg (gRem τ) := by unfold gNg gFolW; rw [gPut_ne _ _ _ (by decide), gPut_ne _ _ _ (by decide)]
    rw [this, gRem_ng]
  refine ct_of (by decide +kernel) rfl (Nat.le_of_ble_eq_true rfl) rfl ?_
  refine go_aload_n (q := 1) (gDec iX11_follow_ok 0 rfl) rfl rfl rfl ?_
  refine go_aload_n (q := 2) (gDec iX11_follow_ok 1 rfl) rfl rfl rfl ?_
  refine go_iload_n (q := 3) (gDec iX11_follow_ok 2 rfl) rfl rfl rfl ?_
  refine go_iload_n (q := 4) (gDec iX11_follow_ok 3 rfl) rfl rfl rfl ?_
  refine go_callV (n2 := 0) (q := 7) kX11_144 (ctX11_isSide (τ := τ) hW hM) (gDec iX11_follow_ok 4 rfl) rfl rfl (by decide) rfl rfl rfl (Nat.le_of_ble_eq_true rfl) rfl (gFit_rm (by decide) (by decide)) rfl ?_
  refine go_top (v' := 1) (if_pos h1) ?_
  refine go_if_eq (t := 20) (q := 10) (gDec iX11_follow_ok 5 rfl) (by decide) rfl (fun c7 => False.elim (absurd c7 (by decide))) (fun c7 => ?_)
  refine go_aload_n (q := 11) (gDec iX11_follow_ok 6 rfl) rfl rfl rfl ?_
  refine go_iload_n (q := 12) (gDec iX11_follow_ok 7 rfl) rfl rfl rfl ?_
  refine go_iload (q := 14) (gDec iX11_follow_ok 8 rfl) rfl rfl ?_
  refine go_callV (n2 := 0) (q := 17) kX11_144 (ctX11_isSide (τ := τ) hW hM) (gDec iX11_follow_ok 9 rfl) rfl rfl (by decide) rfl rfl rfl (Nat.le_of_ble_eq_true rfl) rfl (gFit_rm (by decide) (by decide)) rfl ?_
  refine go_top (v' := 1) (if_pos h1b) ?_
  refine go_if_ne (t := 24) (q := 20) (gDec iX11_follow_ok 10 rfl) (by decide) rfl (fun c17 => ?_) (fun c17 => False.elim (absurd c17 (by decide)))
  refine go_iload (q := 26) (gDec iX11_follow_ok 13 rfl) rfl rfl ?_
  refine go_i2l (q := 27) (gDec iX11_follow_ok 14 rfl) rfl ?_
  refine go_sipush (v := (-200)) (q := 30) (gDec iX11_follow_ok 15 rfl) (by decide) rfl ?_
  refine go_sipush (v := nI 200) (q := 33) (gDec iX11_follow_ok 16 rfl) (by decide) rfl ?_
  refine go_callS (n2 := 0) (q := 36) kX11_57 ctX11_in (gDec iX11_follow_ok 17 rfl) rfl rfl (Nat.le_of_ble_eq_true rfl) rfl (gFit_rm (by decide) (by decide)) rfl ?_
  refine go_top (v' := 1) (gWi_t (by (try rw [i2l_toInt]); exact h2)) ?_
  refine go_if_ne (t := 43) (q := 39) (gDec iX11_follow_ok 18 rfl) (by decide) rfl (fun c36 => ?_) (fun c36 => False.elim (absurd c36 (by decide)))
  refine go_iconst (v := nI 0) (q := 44) (gDec iX11_follow_ok 21 rfl) (by decide) rfl ?_
  refine go_puti (q := 47) fX11_54 gft11 (gDec iX11_follow_ok 22 rfl) rfl (by decide) rfl rfl rfl rfl ?_
  refine go_iconst (v := nI 2) (q := 48) (gDec iX11_follow_ok 23 rfl) (by decide) rfl ?_
  refine go_iload_n (q := 49) (gDec iX11_follow_ok 24 rfl) rfl rfl rfl ?_
  refine go_imulN (c := 2 * i) (q := 50) (gDec iX11_follow_ok 25 rfl) rfl rfl ?_
  refine go_iload_n (q := 51) (gDec iX11_follow_ok 26 rfl) rfl rfl rfl ?_
  refine go_iaddN (c := 2 * i + j) (q := 52) (gDec iX11_follow_ok 27 rfl) rfl rfl ?_
  refine go_istore (q := 54) (gDec iX11_follow_ok 28 rfl) (by decide) rfl ?_
  refine go_aload_n (q := 55) (gDec iX11_follow_ok 29 rfl) rfl rfl rfl ?_
  refine go_aload_n (q := 56) (gDec iX11_follow_ok 30 rfl) rfl rfl rfl ?_
  refine go_geti (q := 59) fX11_54 (gDec iX11_follow_ok 31 rfl) rfl (by decide) rfl ?_
  refine go_top (v' := nI 0) rfl ?_
  refine go_if_ne (t := 81) (q := 62) (gDec iX11_follow_ok 32 rfl) (by decide) rfl (fun c59 => False.elim (c59 rfl)) (fun c59 => ?_)
  refine go_aload_n (q := 63) (gDec iX11_follow_ok 33 rfl) rfl rfl rfl ?_
  refine go_iconst (v := nI 2) (q := 64) (gDec iX11_follow_ok 34 rfl) (by decide) rfl ?_
  refine go_iload_n (q := 65) (gDec iX11_follow_ok 35 rfl) rfl rfl rfl ?_
  refine go_imulN (c := 2 * k) (q := 66) (gDec iX11_follow_ok 36 rfl) rfl rfl ?_
  refine go_iload (q := 68) (gDec iX11_follow_ok 37 rfl) rfl rfl ?_
  refine go_iaddN (c := 2 * k + l) (q := 69) (gDec iX11_follow_ok 38 rfl) rfl rfl ?_
  refine go_iload (q := 71) (gDec iX11_follow_ok 39 rfl) rfl rfl ?_
  refine go_callV (n2 := 0) (q := 74) kX11_147 (ctX11_leadsTo (τ := τ) (b := 2 * k + l) (t := 2 * i + j) hC (gMRt hM) (by omega) (by omega)) (gDec iX11_follow_ok 40 rfl) rfl rfl (by decide) rfl rfl rfl (Nat.le_of_ble_eq_true rfl) rfl (gFit_rm (by decide) (by decide)) rfl ?_
  refine go_top (v' := 0) (by rw [show 2 * i + j = i * 2 + j by omega, show 2 * k + l = k * 2 + l by omega, hno]; rfl) ?_
  refine go_if_eq (t := 81) (q := 77) (gDec iX11_follow_ok 41 rfl) (by decide) rfl (fun c74 => ?_) (fun c74 => False.elim (c74 rfl))
  refine go_aload_n (q := 82) (gDec iX11_follow_ok 44 rfl) rfl rfl rfl ?_
  refine go_geti (q := 85) fX11_54 (gDec iX11_follow_ok 45 rfl) rfl (by decide) rfl ?_
  refine go_top (v' := nI 0) rfl ?_
  refine go_puti (q := 88) fX11_54 gft11 (gDec iX11_follow_ok 46 rfl) rfl (by decide) rfl rfl rfl rfl ?_
  refine go_aload_n (q := 89) (gDec iX11_follow_ok 47 rfl) rfl rfl rfl ?_
  refine go_geti (q := 92) fX11_54 (gDec iX11_follow_ok 48 rfl) rfl (by decide) rfl ?_
  refine go_top (v' := nI 0) rfl ?_
  refine go_if_le (t := 97) (q := 95) (gDec iX11_follow_ok 49 rfl) (by decide) rfl (fun c92 => ?_) (fun c92 => False.elim (c92 (by decide)))
  refine go_aload_n (q := 98) (gDec iX11_follow_ok 52 rfl) rfl rfl rfl ?_
  refine go_callV (n2 := 0) (q := 101) kX11_89 (ctX11_change (n := (nA (τ.1 71 2))) h.hr.1 h.n8) (gDec iX11_follow_ok 53 rfl) rfl rfl (by decide) rfl rfl rfl (Nat.le_of_ble_eq_true rfl) rfl (gFit_rm (by decide) (by decide)) rfl ?_
  refine go_w (show _ = gChg (gPut σ 376 5 0) (nA (τ.1 71 2)) from congrArg (fun w => gChg w (nA (τ.1 71 2))) (gPut_tw σ 376 5 (nI 0) (nI 0))) ?_
  refine go_aload_n (q := 102) (gDec iX11_follow_ok 54 rfl) rfl rfl rfl ?_
  refine go_getr (r' := 377) (q := 105) fX11_9 (gDec iX11_follow_ok 55 rfl) rfl (by decide) rfl ?_
  refine go_iload (q := 107) (gDec iX11_follow_ok 56 rfl) rfl rfl ?_
  refine go_iconst (v := nI 1) (q := 108) (gDec iX11_follow_ok 57 rfl) (by decide) rfl ?_
  refine go_callS (n2 := 0) (q := 111) kX11_135 (ctX11_sideAt (b := 2 * i + j) (w := 1) (by omega)) (gDec iX11_follow_ok 58 rfl) rfl rfl (Nat.le_of_ble_eq_true rfl) rfl (gFit_rm (by decide) (by decide)) rfl ?_
  refine go_top (v' := nI (196 + 96 * i + (77 + 4 * j + 1))) (congrArg nI (by omega)) ?_
  refine go_iload_n (q := 112) (gDec iX11_follow_ok 59 rfl) rfl rfl rfl ?_
  refine go_iastN (q := 113) (gDec iX11_follow_ok 60 rfl) rfl (by decide) (by omega) (by decide) rfl ?_
  refine go_aload_n (q := 114) (gDec iX11_follow_ok 61 rfl) rfl rfl rfl ?_
  refine go_getr (r' := 377) (q := 117) fX11_9 (gDec iX11_follow_ok 62 rfl) rfl (by decide) rfl ?_
  refine go_iload (q := 119) (gDec iX11_follow_ok 63 rfl) rfl rfl ?_
  refine go_iconst (v := nI 2) (q := 120) (gDec iX11_follow_ok 64 rfl) (by decide) rfl ?_
  refine go_callS (n2 := 0) (q := 123) kX11_135 (ctX11_sideAt (b := 2 * i + j) (w := 2) (by omega)) (gDec iX11_follow_ok 65 rfl) rfl rfl (Nat.le_of_ble_eq_true rfl) rfl (gFit_rm (by decide) (by decide)) rfl ?_
  refine go_top (v' := nI (196 + 96 * i + (77 + 4 * j + 2))) (congrArg nI (by omega)) ?_
  refine go_iload (q := 125) (gDec iX11_follow_ok 66 rfl) rfl rfl ?_
  refine go_iastN (q := 126) (gDec iX11_follow_ok 67 rfl) rfl (by decide) (by omega) (by decide) rfl ?_
  refine go_aload_n (q := 127) (gDec iX11_follow_ok 68 rfl) rfl rfl rfl ?_
  refine go_getr (r' := 377) (q := 130) fX11_9 (gDec iX11_follow_ok 69 rfl) rfl (by decide) rfl ?_
  refine go_iload (q := 132) (gDec iX11_follow_ok 70 rfl) rfl rfl ?_
  refine go_iconst (v := nI 3) (q := 133) (gDec iX11_follow_ok 71 rfl) (by decide) rfl ?_
  refine go_callS (n2 := 0) (q := 136) kX11_135 (ctX11_sideAt (b := 2 * i + j) (w := 3) (by omega)) (gDec iX11_follow_ok 72 rfl) rfl rfl (Nat.le_of_ble_eq_true rfl) rfl (gFit_rm (by decide) (by decide)) rfl ?_
  refine go_top (v' := nI (196 + 96 * i + (77 + 4 * j + 3))) (congrArg nI (by omega)) ?_
  refine go_iload (q := 138) (gDec iX11_follow_ok 73 rfl) rfl rfl ?_
  refine go_iastN (q := 139) (gDec iX11_follow_ok 74 rfl) rfl (by decide) (by omega) (by decide) rfl ?_
  refine go_aload_n (q := 140) (gDec iX11_follow_ok 75 rfl) rfl rfl rfl ?_
  refine go_iload (q := 142) (gDec iX11_follow_ok 76 rfl) rfl rfl ?_
  refine go_callV (n2 := 0) (q := 145) kX11_141 (ctX11_bearing (τ := (gFolW τ i j (k * 2 + l) d)) (b := 2 * i + j) m1 m2 (by rw [eng]; omega)) (gDec iX11_follow_ok 77 rfl) rfl rfl (by decide) rfl rfl rfl (Nat.le_of_ble_eq_true rfl) rfl (gFit_rm (by decide) (by decide)) rfl ?_
  refine go_top (v' := gSd (gFolW τ i j (k * 2 + l) d) (i * 2 + j)) (by rw [show 2 * i + j = i * 2 + j by omega]) ?_
  exact go_ireturn (gDec iX11_follow_ok 78 rfl) rfl rfl rfl rfl (by decide)

set_option maxHeartbeats 4000000 in
set_option maxRecDepth 100000 in
theorem ok_follow {κ : gK} {σ τ : gST} {g s lg ls d : Int32} (h : gAll τ σ) : gOK κ mX11_follow [.ref (κ.2.1 + 376), .int g, .int s, .int lg, .int ls, .int d] σ (rI (aI (fFollow τ g s lg ls d).1)) kOAU (fFollow τ g s lg ls d) := by
  have hC := h.ci
  have hM := h.mr
  have hW := hC.dw
  have h24 := hW.ng24
  have eRl : gLe (gRem τ) = gLe τ := by funext a; unfold gLe; rw [(gRem_D τ) 17 (by decide)]
  by_cases h1 : gInS τ g s
  · by_cases h1b : gInS τ lg ls
    · by_cases h2 : -200 ≤ d.toInt ∧ d.toInt ≤ 200
      · obtain ⟨i, j, hi, hj, rfl, rfl⟩ := gInS.ex h1
        obtain ⟨k, l, hk, hl, rfl, rfl⟩ := gInS.ex h1b
        cases h3 : gLd (gLe τ) (i * 2 + j) 49 (some (k * 2 + l)) with
        | true =>
          rw [show fFollow τ (nI i) (nI j) (nI k) (nI l) d = (xUOE, τ) from (if_pos ⟨h1, h1b⟩).trans ((if_pos h2).trans (if_pos (by rw [nA_nI (n := i) (by omega), nA_nI (n := j) (by omega), nA_nI (n := k) (by omega), nA_nI (n := l) (by omega)]; exact h3)))]
          refine gOK.rd h rfl ?_
          refine ct_of (by decide +kernel) rfl (Nat.le_of_ble_eq_true rfl) rfl ?_
          refine go_aload_n (q := 1) (gDec iX11_follow_ok 0 rfl) rfl rfl rfl ?_
          refine go_aload_n (q := 2) (gDec iX11_follow_ok 1 rfl) rfl rfl rfl ?_
          refine go_iload_n (q := 3) (gDec iX11_follow_ok 2 rfl) rfl rfl rfl ?_
          refine go_iload_n (q := 4) (gDec iX11_follow_ok 3 rfl) rfl rfl rfl ?_
          refine go_callV (n2 := 0) (q := 7) kX11_144 (ctX11_isSide (τ := τ) hW hM) (gDec iX11_follow_ok 4 rfl) rfl rfl (by decide) rfl rfl rfl (Nat.le_of_ble_eq_true rfl) rfl (gFit_rm (by decide) (by decide)) rfl ?_
          refine go_top (v' := 1) (if_pos h1) ?_
          refine go_if_eq (t := 20) (q := 10) (gDec iX11_follow_ok 5 rfl) (by decide) rfl (fun c7 => False.elim (absurd c7 (by decide))) (fun c7 => ?_)
          refine go_aload_n (q := 11) (gDec iX11_follow_ok 6 rfl) rfl rfl rfl ?_
          refine go_iload_n (q := 12) (gDec iX11_follow_ok 7 rfl) rfl rfl rfl ?_
          refine go_iload (q := 14) (gDec iX11_follow_ok 8 rfl) rfl rfl ?_
          refine go_callV (n2 := 0) (q := 17) kX11_144 (ctX11_isSide (τ := τ) hW hM) (gDec iX11_follow_ok 9 rfl) rfl rfl (by decide) rfl rfl rfl (Nat.le_of_ble_eq_true rfl) rfl (gFit_rm (by decide) (by decide)) rfl ?_
          refine go_top (v' := 1) (if_pos h1b) ?_
          refine go_if_ne (t := 24) (q := 20) (gDec iX11_follow_ok 10 rfl) (by decide) rfl (fun c17 => ?_) (fun c17 => False.elim (absurd c17 (by decide)))
          refine go_iload (q := 26) (gDec iX11_follow_ok 13 rfl) rfl rfl ?_
          refine go_i2l (q := 27) (gDec iX11_follow_ok 14 rfl) rfl ?_
          refine go_sipush (v := (-200)) (q := 30) (gDec iX11_follow_ok 15 rfl) (by decide) rfl ?_
          refine go_sipush (v := nI 200) (q := 33) (gDec iX11_follow_ok 16 rfl) (by decide) rfl ?_
          refine go_callS (n2 := 0) (q := 36) kX11_57 ctX11_in (gDec iX11_follow_ok 17 rfl) rfl rfl (Nat.le_of_ble_eq_true rfl) rfl (gFit_rm (by decide) (by decide)) rfl ?_
          refine go_top (v' := 1) (gWi_t (by (try rw [i2l_toInt]); exact h2)) ?_
          refine go_if_ne (t := 43) (q := 39) (gDec iX11_follow_ok 18 rfl) (by decide) rfl (fun c36 => ?_) (fun c36 => False.elim (absurd c36 (by decide)))
          refine go_iconst (v := nI 0) (q := 44) (gDec iX11_follow_ok 21 rfl) (by decide) rfl ?_
          refine go_puti (q := 47) fX11_54 gft11 (gDec iX11_follow_ok 22 rfl) rfl (by decide) rfl rfl rfl rfl ?_
          refine go_iconst (v := nI 2) (q := 48) (gDec iX11_follow_ok 23 rfl) (by decide) rfl ?_
          refine go_iload_n (q := 49) (gDec iX11_follow_ok 24 rfl) rfl rfl rfl ?_
          refine go_imulN (c := 2 * i) (q := 50) (gDec iX11_follow_ok 25 rfl) rfl rfl ?_
          refine go_iload_n (q := 51) (gDec iX11_follow_ok 26 rfl) rfl rfl rfl ?_
          refine go_iaddN (c := 2 * i + j) (q := 52) (gDec iX11_follow_ok 27 rfl) rfl rfl ?_
          refine go_istore (q := 54) (gDec iX11_follow_ok 28 rfl) (by decide) rfl ?_
          refine go_aload_n (q := 55) (gDec iX11_follow_ok 29 rfl) rfl rfl rfl ?_
          refine go_aload_n (q := 56) (gDec iX11_follow_ok 30 rfl) rfl rfl rfl ?_
          refine go_geti (q := 59) fX11_54 (gDec iX11_follow_ok 31 rfl) rfl (by decide) rfl ?_
          refine go_top (v' := nI 0) rfl ?_
          refine go_if_ne (t := 81) (q := 62) (gDec iX11_follow_ok 32 rfl) (by decide) rfl (fun c59 => False.elim (c59 rfl)) (fun c59 => ?_)
          refine go_aload_n (q := 63) (gDec iX11_follow_ok 33 rfl) rfl rfl rfl ?_
          refine go_iconst (v := nI 2) (q := 64) (gDec iX11_follow_ok 34 rfl) (by decide) rfl ?_
          refine go_iload_n (q := 65) (gDec iX11_follow_ok 35 rfl) rfl rfl rfl ?_
          refine go_imulN (c := 2 * k) (q := 66) (gDec iX11_follow_ok 36 rfl) rfl rfl ?_
          refine go_iload (q := 68) (gDec iX11_follow_ok 37 rfl) rfl rfl ?_
          refine go_iaddN (c := 2 * k + l) (q := 69) (gDec iX11_follow_ok 38 rfl) rfl rfl ?_
          refine go_iload (q := 71) (gDec iX11_follow_ok 39 rfl) rfl rfl ?_
          refine go_callV (n2 := 0) (q := 74) kX11_147 (ctX11_leadsTo (τ := τ) (b := 2 * k + l) (t := 2 * i + j) hC (gMRt hM) (by omega) (by omega)) (gDec iX11_follow_ok 40 rfl) rfl rfl (by decide) rfl rfl rfl (Nat.le_of_ble_eq_true rfl) rfl (gFit_rm (by decide) (by decide)) rfl ?_
          refine go_top (v' := 1) (by rw [show 2 * i + j = i * 2 + j by omega, show 2 * k + l = k * 2 + l by omega, h3]; rfl) ?_
          refine go_if_eq (t := 81) (q := 77) (gDec iX11_follow_ok 41 rfl) (by decide) rfl (fun c74 => False.elim (absurd c74 (by decide))) (fun c74 => ?_)
          refine go_iconst (v := nI 3) (q := 78) (gDec iX11_follow_ok 42 rfl) (by decide) rfl ?_
          refine go_goto (t := 85) (gDec iX11_follow_ok 43 rfl) (by decide) ?_
          refine go_puti (q := 88) fX11_54 gft11 (gDec iX11_follow_ok 46 rfl) rfl (by decide) rfl rfl rfl rfl ?_
          refine go_aload_n (q := 89) (gDec iX11_follow_ok 47 rfl) rfl rfl rfl ?_
          refine go_geti (q := 92) fX11_54 (gDec iX11_follow_ok 48 rfl) rfl (by decide) rfl ?_
          refine go_top (v' := nI 3) rfl ?_
          refine go_if_le (t := 97) (q := 95) (gDec iX11_follow_ok 49 rfl) (by decide) rfl (fun c92 => False.elim (absurd c92 (by decide))) (fun c92 => ?_)
          refine go_iconst (v := nI 0) (q := 96) (gDec iX11_follow_ok 50 rfl) (by decide) rfl ?_
          exact go_ireturn (gDec iX11_follow_ok 51 rfl) rfl rfl rfl (gPut_2x (congrArg (gPut σ 376 5) xc_OAU_U)) (by decide)
        | false =>
          rw [show fFollow τ (nI i) (nI j) (nI k) (nI l) d = (rI (gSd (gFolW τ i j (k * 2 + l) d) (i * 2 + j)), (gFolW τ i j (k * 2 + l) d)) from (if_pos ⟨h1, h1b⟩).trans ((if_pos h2).trans ((if_neg (by rw [nA_nI (n := i) (by omega), nA_nI (n := j) (by omega), nA_nI (n := k) (by omega), nA_nI (n := l) (by omega), h3]; decide)).trans (by rw [nA_nI (n := i) (by omega), nA_nI (n := j) (by omega), nA_nI (n := k) (by omega), nA_nI (n := l) (by omega)])))]
          have m := mt_follow (d := d) (gRem_ci hC) (gRem_mr hC hM) (by rw [gRem_ng]; exact hi) hj (by rw [gRem_ng]; exact hk) hl (by rw [eRl]; exact h3)
          refine gOK.ch h (okw_follow h h1 h1b hi hj hk hl h2 h3) m (fun k hk => by unfold gFolW; rw [gPut_ne _ _ _ (by omega), gPut_ne _ _ _ (by omega)]) ?_ (fun k hk => by rw [gPut_ne _ _ _ hk, gPut_ne _ _ _ hk, gPut_ne _ _ _ hk]) rfl
          have : gNg (gFolW τ i j (k * 2 + l) d) = gNg (gRem τ) := by unfold gNg gFolW; rw [gPut_ne _ _ _ (by decide), gPut_ne _ _ _ (by decide)]
          rw [this, gRem_ng]
          exact Nat.le_refl _
      · rw [show fFollow τ g s lg ls d = (xIAE, τ) from (if_pos ⟨h1, h1b⟩).trans (if_neg h2)]
        refine gOK.rd h rfl ?_
        refine ct_of (by decide +kernel) rfl (Nat.le_of_ble_eq_true rfl) rfl ?_
        refine go_aload_n (q := 1) (gDec iX11_follow_ok 0 rfl) rfl rfl rfl ?_
        refine go_aload_n (q := 2) (gDec iX11_follow_ok 1 rfl) rfl rfl rfl ?_
        refine go_iload_n (q := 3) (gDec iX11_follow_ok 2 rfl) rfl rfl rfl ?_
        refine go_iload_n (q := 4) (gDec iX11_follow_ok 3 rfl) rfl rfl rfl ?_
        refine go_callV (n2 := 0) (q := 7) kX11_144 (ctX11_isSide (τ := τ) hW hM) (gDec iX11_follow_ok 4 rfl) rfl rfl (by decide) rfl rfl rfl (Nat.le_of_ble_eq_true rfl) rfl (gFit_rm (by decide) (by decide)) rfl ?_
        refine go_top (v' := 1) (if_pos h1) ?_
        refine go_if_eq (t := 20) (q := 10) (gDec iX11_follow_ok 5 rfl) (by decide) rfl (fun c7 => False.elim (absurd c7 (by decide))) (fun c7 => ?_)
        refine go_aload_n (q := 11) (gDec iX11_follow_ok 6 rfl) rfl rfl rfl ?_
        refine go_iload_n (q := 12) (gDec iX11_follow_ok 7 rfl) rfl rfl rfl ?_
        refine go_iload (q := 14) (gDec iX11_follow_ok 8 rfl) rfl rfl ?_
        refine go_callV (n2 := 0) (q := 17) kX11_144 (ctX11_isSide (τ := τ) hW hM) (gDec iX11_follow_ok 9 rfl) rfl rfl (by decide) rfl rfl rfl (Nat.le_of_ble_eq_true rfl) rfl (gFit_rm (by decide) (by decide)) rfl ?_
        refine go_top (v' := 1) (if_pos h1b) ?_
        refine go_if_ne (t := 24) (q := 20) (gDec iX11_follow_ok 10 rfl) (by decide) rfl (fun c17 => ?_) (fun c17 => False.elim (absurd c17 (by decide)))
        refine go_iload (q := 26) (gDec iX11_follow_ok 13 rfl) rfl rfl ?_
        refine go_i2l (q := 27) (gDec iX11_follow_ok 14 rfl) rfl ?_
        refine go_sipush (v := (-200)) (q := 30) (gDec iX11_follow_ok 15 rfl) (by decide) rfl ?_
        refine go_sipush (v := nI 200) (q := 33) (gDec iX11_follow_ok 16 rfl) (by decide) rfl ?_
        refine go_callS (n2 := 0) (q := 36) kX11_57 ctX11_in (gDec iX11_follow_ok 17 rfl) rfl rfl (Nat.le_of_ble_eq_true rfl) rfl (gFit_rm (by decide) (by decide)) rfl ?_
        refine go_top (v' := 0) (gWi_f (by (try rw [i2l_toInt]); exact h2)) ?_
        refine go_if_ne (t := 43) (q := 39) (gDec iX11_follow_ok 18 rfl) (by decide) rfl (fun c36 => False.elim (c36 rfl)) (fun c36 => ?_)
        refine go_iconst (v := nI 2) (q := 40) (gDec iX11_follow_ok 19 rfl) (by decide) rfl ?_
        refine go_goto (t := 44) (gDec iX11_follow_ok 20 rfl) (by decide) ?_
        refine go_puti (q := 47) fX11_54 gft11 (gDec iX11_follow_ok 22 rfl) rfl (by decide) rfl rfl rfl rfl ?_
        refine go_iconst (v := nI 2) (q := 48) (gDec iX11_follow_ok 23 rfl) (by decide) rfl ?_
        refine go_iload_n (q := 49) (gDec iX11_follow_ok 24 rfl) rfl rfl rfl ?_
        refine go_imul (q := 50) (gDec iX11_follow_ok 25 rfl) rfl ?_
        refine go_iload_n (q := 51) (gDec iX11_follow_ok 26 rfl) rfl rfl rfl ?_
        refine go_iadd (q := 52) (gDec iX11_follow_ok 27 rfl) rfl ?_
        refine go_istore (q := 54) (gDec iX11_follow_ok 28 rfl) (by decide) rfl ?_
        refine go_aload_n (q := 55) (gDec iX11_follow_ok 29 rfl) rfl rfl rfl ?_
        refine go_aload_n (q := 56) (gDec iX11_follow_ok 30 rfl) rfl rfl rfl ?_
        refine go_geti (q := 59) fX11_54 (gDec iX11_follow_ok 31 rfl) rfl (by decide) rfl ?_
        refine go_top (v' := nI 2) rfl ?_
        refine go_if_ne (t := 81) (q := 62) (gDec iX11_follow_ok 32 rfl) (by decide) rfl (fun c59 => ?_) (fun c59 => False.elim (absurd c59 (by decide)))
        refine go_aload_n (q := 82) (gDec iX11_follow_ok 44 rfl) rfl rfl rfl ?_
        refine go_geti (q := 85) fX11_54 (gDec iX11_follow_ok 45 rfl) rfl (by decide) rfl ?_
        refine go_top (v' := nI 2) rfl ?_
        refine go_puti (q := 88) fX11_54 gft11 (gDec iX11_follow_ok 46 rfl) rfl (by decide) rfl rfl rfl rfl ?_
        refine go_aload_n (q := 89) (gDec iX11_follow_ok 47 rfl) rfl rfl rfl ?_
        refine go_geti (q := 92) fX11_54 (gDec iX11_follow_ok 48 rfl) rfl (by decide) rfl ?_
        refine go_top (v' := nI 2) rfl ?_
        refine go_if_le (t := 97) (q := 95) (gDec iX11_follow_ok 49 rfl) (by decide) rfl (fun c92 => False.elim (absurd c92 (by decide))) (fun c92 => ?_)
        refine go_iconst (v := nI 0) (q := 96) (gDec iX11_follow_ok 50 rfl) (by decide) rfl ?_
        exact go_ireturn (gDec iX11_follow_ok 51 rfl) rfl rfl rfl (gPut_2x (congrArg (gPut σ 376 5) xc_OAU_A)) (by decide)
    · rw [show fFollow τ g s lg ls d = (xIOB, τ) from if_neg (fun h9 => h1b h9.2)]
      refine gOK.rd h rfl ?_
      refine ct_of (by decide +kernel) rfl (Nat.le_of_ble_eq_true rfl) rfl ?_
      refine go_aload_n (q := 1) (gDec iX11_follow_ok 0 rfl) rfl rfl rfl ?_
      refine go_aload_n (q := 2) (gDec iX11_follow_ok 1 rfl) rfl rfl rfl ?_
      refine go_iload_n (q := 3) (gDec iX11_follow_ok 2 rfl) rfl rfl rfl ?_
      refine go_iload_n (q := 4) (gDec iX11_follow_ok 3 rfl) rfl rfl rfl ?_
      refine go_callV (n2 := 0) (q := 7) kX11_144 (ctX11_isSide (τ := τ) hW hM) (gDec iX11_follow_ok 4 rfl) rfl rfl (by decide) rfl rfl rfl (Nat.le_of_ble_eq_true rfl) rfl (gFit_rm (by decide) (by decide)) rfl ?_
      refine go_top (v' := 1) (if_pos h1) ?_
      refine go_if_eq (t := 20) (q := 10) (gDec iX11_follow_ok 5 rfl) (by decide) rfl (fun c7 => False.elim (absurd c7 (by decide))) (fun c7 => ?_)
      refine go_aload_n (q := 11) (gDec iX11_follow_ok 6 rfl) rfl rfl rfl ?_
      refine go_iload_n (q := 12) (gDec iX11_follow_ok 7 rfl) rfl rfl rfl ?_
      refine go_iload (q := 14) (gDec iX11_follow_ok 8 rfl) rfl rfl ?_
      refine go_callV (n2 := 0) (q := 17) kX11_144 (ctX11_isSide (τ := τ) hW hM) (gDec iX11_follow_ok 9 rfl) rfl rfl (by decide) rfl rfl rfl (Nat.le_of_ble_eq_true rfl) rfl (gFit_rm (by decide) (by decide)) rfl ?_
      refine go_top (v' := 0) (if_neg h1b) ?_
      refine go_if_ne (t := 24) (q := 20) (gDec iX11_follow_ok 10 rfl) (by decide) rfl (fun c17 => False.elim (c17 rfl)) (fun c17 => ?_)
      refine go_iconst (v := nI 1) (q := 21) (gDec iX11_follow_ok 11 rfl) (by decide) rfl ?_
      refine go_goto (t := 44) (gDec iX11_follow_ok 12 rfl) (by decide) ?_
      refine go_puti (q := 47) fX11_54 gft11 (gDec iX11_follow_ok 22 rfl) rfl (by decide) rfl rfl rfl rfl ?_
      refine go_iconst (v := nI 2) (q := 48) (gDec iX11_follow_ok 23 rfl) (by decide) rfl ?_
      refine go_iload_n (q := 49) (gDec iX11_follow_ok 24 rfl) rfl rfl rfl ?_
      refine go_imul (q := 50) (gDec iX11_follow_ok 25 rfl) rfl ?_
      refine go_iload_n (q := 51) (gDec iX11_follow_ok 26 rfl) rfl rfl rfl ?_
      refine go_iadd (q := 52) (gDec iX11_follow_ok 27 rfl) rfl ?_
      refine go_istore (q := 54) (gDec iX11_follow_ok 28 rfl) (by decide) rfl ?_
      refine go_aload_n (q := 55) (gDec iX11_follow_ok 29 rfl) rfl rfl rfl ?_
      refine go_aload_n (q := 56) (gDec iX11_follow_ok 30 rfl) rfl rfl rfl ?_
      refine go_geti (q := 59) fX11_54 (gDec iX11_follow_ok 31 rfl) rfl (by decide) rfl ?_
      refine go_top (v' := nI 1) rfl ?_
      refine go_if_ne (t := 81) (q := 62) (gDec iX11_follow_ok 32 rfl) (by decide) rfl (fun c59 => ?_) (fun c59 => False.elim (absurd c59 (by decide)))
      refine go_aload_n (q := 82) (gDec iX11_follow_ok 44 rfl) rfl rfl rfl ?_
      refine go_geti (q := 85) fX11_54 (gDec iX11_follow_ok 45 rfl) rfl (by decide) rfl ?_
      refine go_top (v' := nI 1) rfl ?_
      refine go_puti (q := 88) fX11_54 gft11 (gDec iX11_follow_ok 46 rfl) rfl (by decide) rfl rfl rfl rfl ?_
      refine go_aload_n (q := 89) (gDec iX11_follow_ok 47 rfl) rfl rfl rfl ?_
      refine go_geti (q := 92) fX11_54 (gDec iX11_follow_ok 48 rfl) rfl (by decide) rfl ?_
      refine go_top (v' := nI 1) rfl ?_
      refine go_if_le (t := 97) (q := 95) (gDec iX11_follow_ok 49 rfl) (by decide) rfl (fun c92 => False.elim (absurd c92 (by decide))) (fun c92 => ?_)
      refine go_iconst (v := nI 0) (q := 96) (gDec iX11_follow_ok 50 rfl) (by decide) rfl ?_
      exact go_ireturn (gDec iX11_follow_ok 51 rfl) rfl rfl rfl (gPut_2x (congrArg (gPut σ 376 5) xc_OAU_O)) (by decide)
  · rw [show fFollow τ g s lg ls d = (xIOB, τ) from if_neg (fun h9 => h1 h9.1)]
    refine gOK.rd h rfl ?_
    refine ct_of (by decide +kernel) rfl (Nat.le_of_ble_eq_true rfl) rfl ?_
    refine go_aload_n (q := 1) (gDec iX11_follow_ok 0 rfl) rfl rfl rfl ?_
    refine go_aload_n (q := 2) (gDec iX11_follow_ok 1 rfl) rfl rfl rfl ?_
    refine go_iload_n (q := 3) (gDec iX11_follow_ok 2 rfl) rfl rfl rfl ?_
    refine go_iload_n (q := 4) (gDec iX11_follow_ok 3 rfl) rfl rfl rfl ?_
    refine go_callV (n2 := 0) (q := 7) kX11_144 (ctX11_isSide (τ := τ) hW hM) (gDec iX11_follow_ok 4 rfl) rfl rfl (by decide) rfl rfl rfl (Nat.le_of_ble_eq_true rfl) rfl (gFit_rm (by decide) (by decide)) rfl ?_
    refine go_top (v' := 0) (if_neg h1) ?_
    refine go_if_eq (t := 20) (q := 10) (gDec iX11_follow_ok 5 rfl) (by decide) rfl (fun c7 => ?_) (fun c7 => False.elim (c7 rfl))
    refine go_iconst (v := nI 1) (q := 21) (gDec iX11_follow_ok 11 rfl) (by decide) rfl ?_
    refine go_goto (t := 44) (gDec iX11_follow_ok 12 rfl) (by decide) ?_
    refine go_puti (q := 47) fX11_54 gft11 (gDec iX11_follow_ok 22 rfl) rfl (by decide) rfl rfl rfl rfl ?_
    refine go_iconst (v := nI 2) (q := 48) (gDec iX11_follow_ok 23 rfl) (by decide) rfl ?_
    refine go_iload_n (q := 49) (gDec iX11_follow_ok 24 rfl) rfl rfl rfl ?_
    refine go_imul (q := 50) (gDec iX11_follow_ok 25 rfl) rfl ?_
    refine go_iload_n (q := 51) (gDec iX11_follow_ok 26 rfl) rfl rfl rfl ?_
    refine go_iadd (q := 52) (gDec iX11_follow_ok 27 rfl) rfl ?_
    refine go_istore (q := 54) (gDec iX11_follow_ok 28 rfl) (by decide) rfl ?_
    refine go_aload_n (q := 55) (gDec iX11_follow_ok 29 rfl) rfl rfl rfl ?_
    refine go_aload_n (q := 56) (gDec iX11_follow_ok 30 rfl) rfl rfl rfl ?_
    refine go_geti (q := 59) fX11_54 (gDec iX11_follow_ok 31 rfl) rfl (by decide) rfl ?_
    refine go_top (v' := nI 1) rfl ?_
    refine go_if_ne (t := 81) (q := 62) (gDec iX11_follow_ok 32 rfl) (by decide) rfl (fun c59 => ?_) (fun c59 => False.elim (absurd c59 (by decide)))
    refine go_aload_n (q := 82) (gDec iX11_follow_ok 44 rfl) rfl rfl rfl ?_
    refine go_geti (q := 85) fX11_54 (gDec iX11_follow_ok 45 rfl) rfl (by decide) rfl ?_
    refine go_top (v' := nI 1) rfl ?_
    refine go_puti (q := 88) fX11_54 gft11 (gDec iX11_follow_ok 46 rfl) rfl (by decide) rfl rfl rfl rfl ?_
    refine go_aload_n (q := 89) (gDec iX11_follow_ok 47 rfl) rfl rfl rfl ?_
    refine go_geti (q := 92) fX11_54 (gDec iX11_follow_ok 48 rfl) rfl (by decide) rfl ?_
    refine go_top (v' := nI 1) rfl ?_
    refine go_if_le (t := 97) (q := 95) (gDec iX11_follow_ok 49 rfl) (by decide) rfl (fun c92 => False.elim (absurd c92 (by decide))) (fun c92 => ?_)
    refine go_iconst (v := nI 0) (q := 96) (gDec iX11_follow_ok 50 rfl) (by decide) rfl ?_
    exact go_ireturn (gDec iX11_follow_ok 51 rfl) rfl rfl rfl (gPut_2x (congrArg (gPut σ 376 5) xc_OAU_O)) (by decide)
