/-- a glyph drawn anew from what was read -/
theorem mt_read {ρ : gST} {a : Nat × gST} {s s' : Nat → Int32} {g K : Nat} {N : Nat → Nat} (hC : gCI ρ) (hM : gMR ρ s) (hg : g < gNg ρ) (hK : K ≤ 3) (hN : ∀ c, c < K → 3 ≤ N c ∧ N c ≤ 12)
    (hR : ∀ c p, c < K → p < N c → (-200 ≤ (ρ.1 358 (pOf N c + p)).toInt ∧ (ρ.1 358 (pOf N c + p)).toInt ≤ 1200) ∧ (-200 ≤ (ρ.1 360 (pOf N c + p)).toInt ∧ (ρ.1 360 (pOf N c + p)).toInt ≤ 1200))
    (h : dzI ρ g N K a) (hs : ∀ x, ¬ (196 + 96 * g + 1 ≤ x ∧ x < 196 + 96 * g + 77) → s' x = s x) (n1 : s' (196 + 96 * g + 1) = nI K) (n2 : ∀ c, c < K → s' (196 + 96 * g + (2 + c)) = nI (N c))
    (n3 : ∀ c p, c < K → p < N c → s' (196 + 96 * g + (5 + 2 * (12 * c + p))) = ρ.1 358 (pOf N c + p) ∧ s' (196 + 96 * g + (5 + 2 * (12 * c + p)) + 1) = ρ.1 360 (pOf N c + p)) : gCI a.2 ∧ gMR a.2 s' := by
  have hW := hC.dw
  have h24 := hW.ng24
  obtain ⟨h1, h2, h3, h4, h5, h6, h7, h8, h9⟩ := h
  have eng : gNg a.2 = gNg ρ := by unfold gNg; rw [h2 2 (by decide) (by decide) (by decide) (by decide)]
  have enc : ∀ i, gNc a.2 i = if i = g then K else gNc ρ i := fun i => by
    unfold gNc
    rw [h4]
    split
    · exact nA_nI (by omega)
    · rfl
  have enp : ∀ c, c < K → gNp a.2 g c = N c := fun c hc => by
    unfold gNp
    rw [h5 c hc]
    exact nA_nI (by have := hN c hc; omega)
  have enp2 : ∀ i c, i ≠ g → c < 3 → gNp a.2 i c = gNp ρ i c := fun i c hi hc => by
    unfold gNp
    rw [h6 _ (by omega)]
  refine ⟨hC.con (fun k _ _ q1 q2 q3 q4 => h2 k q1 q2 q3 q4) ?_ ?_ ⟨?_, ?_⟩ ?_, hM.con hW hg (fun k _ _ q1 q2 q3 q4 => h2 k q1 q2 q3 q4) ?_ ?_ ?_ hs ?_ ?_ ?_⟩
  · intro i hi
    rw [h4]
    split
    · rw [nI_toInt (by omega)]; omega
    · exact hW.2.1 i hi
  · intro x hx
    rcases h7 x with ⟨c, q1, q2⟩ | q
    · rw [q2, h5 c q1]
      have := hN c q1
      rw [nI_toInt (by omega)]; omega
    · rw [q]; exact hW.2.2.1 x hx
  · rw [eng]
    intro i c hi hc
    rw [enc] at hc
    by_cases hig : i = g
    · rw [if_pos hig] at hc
      rw [hig, enp c hc]
      exact (hN c hc).1
    · rw [if_neg hig] at hc
      have := hW.nc3 (g := i) (by omega)
      rw [enp2 i c hig (by omega)]
      exact hC.po.1 i c hi hc
  · rw [eng]
    intro i c p hi hc hp
    rw [enc] at hc
    by_cases hig : i = g
    · rw [if_pos hig] at hc
      subst hig
      rw [enp c hc] at hp
      obtain ⟨e1, e2⟩ := h8 c p hc hp
      rw [e1, e2]
      exact hR c p hc hp
    · rw [if_neg hig] at hc
      have hc3 := hW.nc3 (g := i) (by omega)
      rw [enp2 i c hig (by omega)] at hp
      have h12 := hW.np12 (g := i) (c := c) (by omega) (by omega)
      obtain ⟨e1, e2⟩ := h9 ((i * 3 + c) * 12 + p) (by omega)
      rw [e1, e2]
      exact hC.po.2 i c p hi hc hp
  · intro i hi hi2
    rw [h4, if_neg (by omega)]
    exact (hC.gw.2 i hi hi2).1
  · intro i hi _
    rw [h4, if_neg hi]
  · intro i c hi _ hc
    exact h6 _ (by omega)
  · intro i x hi _ hx
    exact h9 _ (by omega)
  · rw [n1, h4, if_pos rfl]
  · intro c hc
    rw [enc, if_pos rfl] at hc
    rw [n2 c hc, h5 c hc]
  · intro c p hc hp
    rw [enc, if_pos rfl] at hc
    rw [enp c hc] at hp
    obtain ⟨e1, e2⟩ := h8 c p hc hp
    rw [e1, e2]
    exact n3 c p hc hp

/-- the design's row after a glyph is written anew -/
def rzU (U : gST) (g K : Nat) : gST := (gSA U.1 377 (va_cpy (U.1 388) (va_cpy (U.1 389) (upd (U.1 377) (196 + 96 * g + 1) (nI K)) 0 (196 + 96 * g + 2) K) 0 (196 + 96 * g + 5) (24 * K)), U.2)
theorem rzA (U : gST) (f : Nat → Int32) (k a b c : Nat) (hk : k ≠ 377) : ((gSA (gSA U.1 377 f) 377 (va_cpy ((gSA U.1 377 f) k) ((gSA U.1 377 f) 377) a b c), U.2) : gST) = (gSA U.1 377 (va_cpy (U.1 k) f a b c), U.2) := by
  rw [gSA_SA, gSA_self, gSA_ne _ _ hk]
theorem rzU_o (U : gST) (g K : Nat) {k : Nat} (hk : k ≠ 377) : (rzU U g K).1 k = U.1 k := gSA_ne _ _ hk
theorem rzU_s (U : gST) (g K : Nat) : (rzU U g K).1 377 = (va_cpy (U.1 388) (va_cpy (U.1 389) (upd (U.1 377) (196 + 96 * g + 1) (nI K)) 0 (196 + 96 * g + 2) K) 0 (196 + 96 * g + 5) (24 * K)) := gSA_self U.1 377 _
theorem rzU_v {U : gST} {g K : Nat} (hK : K ≤ 3) : (∀ x, ¬ (196 + 96 * g + 1 ≤ x ∧ x < 196 + 96 * g + 77) → (rzU U g K).1 377 x = U.1 377 x) ∧ (rzU U g K).1 377 (196 + 96 * g + 1) = nI K ∧ (∀ c, c < K → (rzU U g K).1 377 (196 + 96 * g + (2 + c)) = U.1 389 c) ∧
    (∀ c p, c < K → p < 12 → (rzU U g K).1 377 (196 + 96 * g + (5 + 2 * (12 * c + p))) = U.1 388 (2 * (12 * c + p)) ∧ (rzU U g K).1 377 (196 + 96 * g + (5 + 2 * (12 * c + p)) + 1) = U.1 388 (2 * (12 * c + p) + 1)) := by
  rw [rzU_s]
  unfold va_cpy
  refine ⟨fun x hx => ?_, ?_, fun c hc => ?_, fun c p hc hp => ⟨?_, ?_⟩⟩
  · rw [if_neg (by omega), if_neg (by omega), uN, if_neg (by omega)]
  · rw [if_neg (by omega), if_neg (by omega), uN, if_pos rfl]
  · rw [if_neg (by omega), if_pos (by omega)]
    exact congrArg _ (by omega)
  · rw [if_pos (by omega)]
    exact congrArg _ (by omega)
  · rw [if_pos (by omega)]
    exact congrArg _ (by omega)

set_option maxHeartbeats 4000000 in
set_option maxRecDepth 100000 in
theorem lpX11_rz3 {κ : gK} {U : gST} {g K : Nat} {code x : Int32} (hg : g < 24) (hK : K ≤ 3) (hk : U.1 376 24 = nI K) : Go κ mX11_readGlyph (gRm 9 0) (gZm κ (.inl (some (.int (nI g)))) (rzU U g K) 0) 204 [(0, .ref (κ.2.1 + 376)), (1, .int code), (2, .int x), (3, .int (nI g))] [] U 0 := by
  refine go_aload_n (q := 205) (gDec iX11_readGlyph_ok 105 rfl) rfl rfl rfl ?_
  refine go_getr (r' := 377) (q := 208) fX11_9 (gDec iX11_readGlyph_ok 106 rfl) rfl (by decide) rfl ?_
  refine go_iload_n (q := 209) (gDec iX11_readGlyph_ok 107 rfl) rfl rfl rfl ?_
  refine go_iconst (v := nI 1) (q := 210) (gDec iX11_readGlyph_ok 108 rfl) (by decide) rfl ?_
  refine go_callS (n2 := 0) (q := 213) kX11_61 (ctX11_at (g := g) (w := 1)) (gDec iX11_readGlyph_ok 109 rfl) rfl rfl (Nat.le_of_ble_eq_true rfl) rfl (gFit_rm (by decide) (by decide)) rfl ?_
  refine go_aload_n (q := 214) (gDec iX11_readGlyph_ok 110 rfl) rfl rfl rfl ?_
  refine go_geti (q := 217) fX11_267 (gDec iX11_readGlyph_ok 111 rfl) rfl (by decide) rfl ?_
  refine go_top (v' := nI K) (hk) ?_
  refine go_iastN (q := 218) (gDec iX11_readGlyph_ok 112 rfl) rfl (by decide) (by omega) (by decide) rfl ?_
  refine go_aload_n (q := 219) (gDec iX11_readGlyph_ok 113 rfl) rfl rfl rfl ?_
  refine go_getr (r' := 389) (q := 222) fX11_51 (gDec iX11_readGlyph_ok 114 rfl) rfl (by decide) rfl ?_
  refine go_iconst (v := nI 0) (q := 223) (gDec iX11_readGlyph_ok 115 rfl) (by decide) rfl ?_
  refine go_aload_n (q := 224) (gDec iX11_readGlyph_ok 116 rfl) rfl rfl rfl ?_
  refine go_getr (r' := 377) (q := 227) fX11_9 (gDec iX11_readGlyph_ok 117 rfl) rfl (by decide) rfl ?_
  refine go_iload_n (q := 228) (gDec iX11_readGlyph_ok 118 rfl) rfl rfl rfl ?_
  refine go_iconst (v := nI 2) (q := 229) (gDec iX11_readGlyph_ok 119 rfl) (by decide) rfl ?_
  refine go_callS (n2 := 0) (q := 232) kX11_61 (ctX11_at (g := g) (w := 2)) (gDec iX11_readGlyph_ok 120 rfl) rfl rfl (Nat.le_of_ble_eq_true rfl) rfl (gFit_rm (by decide) (by decide)) rfl ?_
  refine go_aload_n (q := 233) (gDec iX11_readGlyph_ok 121 rfl) rfl rfl rfl ?_
  refine go_geti (q := 236) fX11_267 (gDec iX11_readGlyph_ok 122 rfl) rfl (by decide) rfl ?_
  refine go_top (v' := nI K) (hk) ?_
  refine go_copy (q := 239) kX11_79 (gDec iX11_readGlyph_ok 123 rfl) rfl rfl (by decide) (by decide) (by decide) (nI_pos (by omega)) (nI_pos (by omega)) (by rw [nI_clamp (n := 0) (by omega), nI_clamp (n := K) (by omega)]; omega) (by rw [nI_clamp (n := 196 + 96 * g + 2) (by omega), nI_clamp (n := K) (by omega)]; omega) (Nat.le_of_ble_eq_true rfl) (gFit_rm (by decide) (by decide)) rfl ?_
  refine go_w (show _ = (gSA U.1 377 (va_cpy (U.1 389) (upd (U.1 377) (196 + 96 * g + 1) (nI K)) 0 (196 + 96 * g + 2) K), U.2) from (by rw [nI_clamp (n := 0) (by omega), nI_clamp (n := 196 + 96 * g + 2) (by omega), nI_clamp (n := K) (by omega)]; exact rzA U (upd (U.1 377) (196 + 96 * g + 1) (nI K)) 389 0 (196 + 96 * g + 2) K (by decide))) ?_
  refine go_aload_n (q := 240) (gDec iX11_readGlyph_ok 124 rfl) rfl rfl rfl ?_
  refine go_getr (r' := 388) (q := 243) fX11_48 (gDec iX11_readGlyph_ok 125 rfl) rfl (by decide) rfl ?_
  refine go_iconst (v := nI 0) (q := 244) (gDec iX11_readGlyph_ok 126 rfl) (by decide) rfl ?_
  refine go_aload_n (q := 245) (gDec iX11_readGlyph_ok 127 rfl) rfl rfl rfl ?_
  refine go_getr (r' := 377) (q := 248) fX11_9 (gDec iX11_readGlyph_ok 128 rfl) rfl (by decide) rfl ?_
  refine go_iload_n (q := 249) (gDec iX11_readGlyph_ok 129 rfl) rfl rfl rfl ?_
  refine go_iconst (v := nI 5) (q := 250) (gDec iX11_readGlyph_ok 130 rfl) (by decide) rfl ?_
  refine go_callS (n2 := 0) (q := 253) kX11_61 (ctX11_at (g := g) (w := 5)) (gDec iX11_readGlyph_ok 131 rfl) rfl rfl (Nat.le_of_ble_eq_true rfl) rfl (gFit_rm (by decide) (by decide)) rfl ?_
  refine go_bipush (v := nI 24) (q := 255) (gDec iX11_readGlyph_ok 132 rfl) (by decide) rfl ?_
  refine go_aload_n (q := 256) (gDec iX11_readGlyph_ok 133 rfl) rfl rfl rfl ?_
  refine go_geti (q := 259) fX11_267 (gDec iX11_readGlyph_ok 134 rfl) rfl (by decide) rfl ?_
  refine go_top (v' := nI K) (hk) ?_
  refine go_imulN (c := 24 * K) (q := 260) (gDec iX11_readGlyph_ok 135 rfl) rfl rfl ?_
  refine go_copy (q := 263) kX11_79 (gDec iX11_readGlyph_ok 136 rfl) rfl rfl (by decide) (by decide) (by decide) (nI_pos (by omega)) (nI_pos (by omega)) (by rw [nI_clamp (n := 0) (by omega), nI_clamp (n := 24 * K) (by omega)]; omega) (by rw [nI_clamp (n := 196 + 96 * g + 5) (by omega), nI_clamp (n := 24 * K) (by omega)]; omega) (Nat.le_of_ble_eq_true rfl) (gFit_rm (by decide) (by decide)) rfl ?_
  refine go_w (show _ = rzU U g K from (by rw [nI_clamp (n := 0) (by omega), nI_clamp (n := 196 + 96 * g + 5) (by omega), nI_clamp (n := 24 * K) (by omega)]; exact rzA U (va_cpy (U.1 389) (upd (U.1 377) (196 + 96 * g + 1) (nI K)) 0 (196 + 96 * g + 2) K) 388 0 (196 + 96 * g + 5) (24 * K) (by decide))) ?_
  refine go_iload_n (q := 264) (gDec iX11_readGlyph_ok 137 rfl) rfl rfl rfl ?_
  exact go_ireturn (gDec iX11_readGlyph_ok 138 rfl) rfl rfl rfl rfl (by decide)
