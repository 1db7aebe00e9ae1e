/-- the ints of a design at first -/
def gS0d : Nat → Nat → Int32
  | 0 => fun j => if j = 5 then 250 else 0
  | 3 => fun j => if j < 24 then 0 else 0
  | 5 => fun j => if j < 24 then 0 else 0
  | 7 => fun j => if j < 72 then 0 else 0
  | 9 => fun j => if j < 864 then 0 else 0
  | 11 => fun j => if j < 864 then 0 else 0
  | 14 => fun j => if j < 48 then 50 else 0
  | 16 => fun j => if j < 48 then (-1) else 0
  | 18 => fun j => if j < 48 then 0 else 0
  | 21 => fun j => if j < 24 then (-1) else 0
  | 23 => fun j => if j < 24 then (-1) else 0
  | 25 => fun j => if j < 36 then 301 else 0
  | 27 => fun j => if j < 576 then 301 else 0
  | 30 => fun j => if j < 24 then 0 else 0
  | 32 => fun j => if j < 96 then 0 else 0
  | 34 => fun j => if j < 96 then 0 else 0
  | _ => fun _ => 0
/-- .. of what comes behind the designs -/
def gS0m : Nat → Nat → Int32
  | 2 => fun j => if j < 60 then 0 else 0
  | 5 => fun j => if j < 60 then 0 else 0
  | 7 => fun j => if j < 60 then 0 else 0
  | 9 => fun j => if j < 60 then 0 else 0
  | 12 => fun j => if j < 60 then (-1) else 0
  | 14 => fun j => if j < 60 then 0 else 0
  | 16 => fun j => if j < 60 then 0 else 0
  | 18 => fun j => if j < 60 then 0 else 0
  | 20 => fun j => if j < 60 then 0 else 0
  | 22 => fun j => if j < 60 then 0 else 0
  | 23 => fun j => if j = 21 then -1 else 0
  | 24 => upd (fun _ => 0) (nI 2).toNatClampNeg 250
  | _ => fun _ => 0
def gS0 (k : Nat) : Nat → Int32 := if k = 0 then (fun j => if j = 7 then -1 else 0) else if k < 71 then gS0d ((k - 1) % 35) else if k < 73 then (fun _ => 0) else if k < 353 then gS0d ((k - 73) % 35) else gS0m (k - 353)
/-- the world at the law's start -/
def gS0w : gST := (gS0, 0, 0)
theorem gS0_1 {k : Nat} (h : k < 35) : gS0 (1 + k) = gS0d k := by
  unfold gS0
  rw [if_neg (by omega), if_pos (by omega), show (1 + k - 1) % 35 = k by omega]
theorem gS0_36 {k : Nat} (h : k < 35) : gS0 (36 + k) = gS0d k := by
  unfold gS0
  rw [if_neg (by omega), if_pos (by omega), show (36 + k - 1) % 35 = k by omega]
theorem gS0_h {i k : Nat} (hi : i < 8) (h : k < 35) : gS0 (73 + 35 * i + k) = gS0d k := by
  unfold gS0
  rw [if_neg (by omega), if_neg (by omega), if_neg (by omega), if_pos (by omega), show (73 + 35 * i + k - 73) % 35 = k by omega]
/-- these entries are the world's from o on -/
def sg (κ : gK) (σ : gST) (o : Nat) (l : List va_E) : Prop := ∀ (j : Nat) (e : va_E), l[j]? = some e → e = gE κ σ (o + j)
theorem sg.nil {κ : gK} {σ : gST} {o : Nat} : sg κ σ o [] := fun j e h => by cases j <;> cases h
theorem sg.cons {κ : gK} {σ : gST} {o : Nat} {e : va_E} {t : List va_E} (he : e = gE κ σ o) (ht : sg κ σ (o + 1) t) : sg κ σ o (e :: t) := by
  intro j x h
  cases j with
  | zero => exact (Option.some.inj h).symm.trans he
  | succ j =>
    have := ht j x h
    rw [this, show o + 1 + j = o + (j + 1) by omega]
theorem sg.app {κ : gK} {σ : gST} {o n : Nat} {l1 l2 : List va_E} (h1 : sg κ σ o l1) (hl : l1.length = n) (h2 : sg κ σ (o + n) l2) : sg κ σ o (l1 ++ l2) := by
  intro j e h
  rcases Nat.lt_or_ge j n with hj | hj
  · rw [List.getElem?_append_left (by omega)] at h
    exact h1 j e h
  · rw [List.getElem?_append_right (by omega), hl] at h
    have := h2 _ e h
    rw [this, show o + n + (j - n) = o + j by omega]
theorem gE_a0 {κ : gK} {σ : gST} {r n : Nat} {f : Nat → Int32} (hs : gSh r = .inr (0, n)) (hf : σ.1 r = f) : (.inl (κ.2.2.2.1 0, n, .inl f) : va_E) = gE κ σ r := by
  subst hf
  unfold gE; rw [hs]; rfl
theorem gE_a1 {κ : gK} {σ : gST} {r n : Nat} {f : Nat → Int32} (hs : gSh r = .inr (1, n)) (hf : σ.1 r = f) : (.inl (κ.2.2.2.1 1, n, .inl f) : va_E) = gE κ σ r := by
  subst hf
  unfold gE; rw [hs]; rfl
theorem gE_ob {κ : gK} {σ : gST} {r ci : Nat} {fs : List (Option Nat)} {vs : List Value} (hs : gSh r = .inl (ci, fs)) (h : gF κ.2.1 (σ.1 r) fs 0 = vs) : (.inr (ci, vs) : va_E) = gE κ σ r := by
  subst h
  unfold gE; rw [hs]
set_option maxHeartbeats 4000000 in
set_option maxRecDepth 100000 in
theorem sg_X1 {κ : gK} {σ : gST} {o : Nat} (hD : gIsD o) (hσ : ∀ k, k < 35 → σ.1 (o + k) = gS0d k) : sg κ σ o (blkX1 κ o) := by
  intro j e h
  have hj : j < 35 := by
    have := (List.getElem?_eq_some_iff.mp h).1
    have hl := blkX1_len κ o
    omega
  match j, hj, h with
  | 0, _, h => exact (Option.some.inj h).symm.trans (gE_ob (hD 0 (by decide)) (by rw [hσ 0 (by decide)]; rfl))
  | 1, _, h => exact (Option.some.inj h).symm.trans (gE_ob (hD 1 (by decide)) (by rw [hσ 1 (by decide)]; rfl))
  | 2, _, h => exact (Option.some.inj h).symm.trans (gE_ob (hD 2 (by decide)) (by rw [hσ 2 (by decide)]; rfl))
  | 3, _, h => exact (Option.some.inj h).symm.trans (gE_a0 (hD 3 (by decide)) (hσ 3 (by decide)))
  | 4, _, h => exact (Option.some.inj h).symm.trans (gE_ob (hD 4 (by decide)) (by rw [hσ 4 (by decide)]; rfl))
  | 5, _, h => exact (Option.some.inj h).symm.trans (gE_a0 (hD 5 (by decide)) (hσ 5 (by decide)))
  | 6, _, h => exact (Option.some.inj h).symm.trans (gE_ob (hD 6 (by decide)) (by rw [hσ 6 (by decide)]; rfl))
  | 7, _, h => exact (Option.some.inj h).symm.trans (gE_a0 (hD 7 (by decide)) (hσ 7 (by decide)))
  | 8, _, h => exact (Option.some.inj h).symm.trans (gE_ob (hD 8 (by decide)) (by rw [hσ 8 (by decide)]; rfl))
  | 9, _, h => exact (Option.some.inj h).symm.trans (gE_a0 (hD 9 (by decide)) (hσ 9 (by decide)))
  | 10, _, h => exact (Option.some.inj h).symm.trans (gE_ob (hD 10 (by decide)) (by rw [hσ 10 (by decide)]; rfl))
  | 11, _, h => exact (Option.some.inj h).symm.trans (gE_a0 (hD 11 (by decide)) (hσ 11 (by decide)))
  | 12, _, h => exact (Option.some.inj h).symm.trans (gE_ob (hD 12 (by decide)) (by rw [hσ 12 (by decide)]; rfl))
  | 13, _, h => exact (Option.some.inj h).symm.trans (gE_ob (hD 13 (by decide)) (by rw [hσ 13 (by decide)]; rfl))
  | 14, _, h => exact (Option.some.inj h).symm.trans (gE_a0 (hD 14 (by decide)) (hσ 14 (by decide)))
  | 15, _, h => exact (Option.some.inj h).symm.trans (gE_ob (hD 15 (by decide)) (by rw [hσ 15 (by decide)]; rfl))
  | 16, _, h => exact (Option.some.inj h).symm.trans (gE_a0 (hD 16 (by decide)) (hσ 16 (by decide)))
  | 17, _, h => exact (Option.some.inj h).symm.trans (gE_ob (hD 17 (by decide)) (by rw [hσ 17 (by decide)]; rfl))
  | 18, _, h => exact (Option.some.inj h).symm.trans (gE_a0 (hD 18 (by decide)) (hσ 18 (by decide)))
  | 19, _, h => exact (Option.some.inj h).symm.trans (gE_ob (hD 19 (by decide)) (by rw [hσ 19 (by decide)]; rfl))
  | 20, _, h => exact (Option.some.inj h).symm.trans (gE_ob (hD 20 (by decide)) (by rw [hσ 20 (by decide)]; rfl))
  | 21, _, h => exact (Option.some.inj h).symm.trans (gE_a0 (hD 21 (by decide)) (hσ 21 (by decide)))
  | 22, _, h => exact (Option.some.inj h).symm.trans (gE_ob (hD 22 (by decide)) (by rw [hσ 22 (by decide)]; rfl))
  | 23, _, h => exact (Option.some.inj h).symm.trans (gE_a0 (hD 23 (by decide)) (hσ 23 (by decide)))
  | 24, _, h => exact (Option.some.inj h).symm.trans (gE_ob (hD 24 (by decide)) (by rw [hσ 24 (by decide)]; rfl))
  | 25, _, h => exact (Option.some.inj h).symm.trans (gE_a0 (hD 25 (by decide)) (hσ 25 (by decide)))
  | 26, _, h => exact (Option.some.inj h).symm.trans (gE_ob (hD 26 (by decide)) (by rw [hσ 26 (by decide)]; rfl))
  | 27, _, h => exact (Option.some.inj h).symm.trans (gE_a0 (hD 27 (by decide)) (hσ 27 (by decide)))
  | 28, _, h => exact (Option.some.inj h).symm.trans (gE_ob (hD 28 (by decide)) (by rw [hσ 28 (by decide)]; rfl))
  | 29, _, h => exact (Option.some.inj h).symm.trans (gE_ob (hD 29 (by decide)) (by rw [hσ 29 (by decide)]; rfl))
  | 30, _, h => exact (Option.some.inj h).symm.trans (gE_a0 (hD 30 (by decide)) (hσ 30 (by decide)))
  | 31, _, h => exact (Option.some.inj h).symm.trans (gE_ob (hD 31 (by decide)) (by rw [hσ 31 (by decide)]; rfl))
  | 32, _, h => exact (Option.some.inj h).symm.trans (gE_a0 (hD 32 (by decide)) (hσ 32 (by decide)))
  | 33, _, h => exact (Option.some.inj h).symm.trans (gE_ob (hD 33 (by decide)) (by rw [hσ 33 (by decide)]; rfl))
  | 34, _, h => exact (Option.some.inj h).symm.trans (gE_a0 (hD 34 (by decide)) (hσ 34 (by decide)))
  | j + 35, hj, _ => omega
set_option maxHeartbeats 4000000 in
set_option maxRecDepth 100000 in
theorem sg_X9 {κ : gK} : sg κ gS0w 353 (blkX9 κ 353) := by
  intro j e h
  have hj : j < 3 := by
    have := (List.getElem?_eq_some_iff.mp h).1
    have hl := blkX9_len κ 353
    omega
  match j, hj, h with
  | 0, _, h => exact (Option.some.inj h).symm.trans (gE_ob rfl rfl)
  | 1, _, h => exact (Option.some.inj h).symm.trans (gE_ob rfl rfl)
  | 2, _, h => exact (Option.some.inj h).symm.trans (gE_a0 rfl rfl)
  | j + 3, hj, _ => omega
set_option maxHeartbeats 4000000 in
set_option maxRecDepth 100000 in
theorem sg_X2 {κ : gK} : sg κ gS0w 356 (blkX2 κ 356) := by
  intro j e h
  have hj : j < 7 := by
    have := (List.getElem?_eq_some_iff.mp h).1
    have hl := blkX2_len κ 356
    omega
  match j, hj, h with
  | 0, _, h => exact (Option.some.inj h).symm.trans (gE_ob rfl rfl)
  | 1, _, h => exact (Option.some.inj h).symm.trans (gE_ob rfl rfl)
  | 2, _, h => exact (Option.some.inj h).symm.trans (gE_a0 rfl rfl)
  | 3, _, h => exact (Option.some.inj h).symm.trans (gE_ob rfl rfl)
  | 4, _, h => exact (Option.some.inj h).symm.trans (gE_a0 rfl rfl)
  | 5, _, h => exact (Option.some.inj h).symm.trans (gE_ob rfl rfl)
  | 6, _, h => exact (Option.some.inj h).symm.trans (gE_a0 rfl rfl)
  | j + 7, hj, _ => omega
set_option maxHeartbeats 4000000 in
set_option maxRecDepth 100000 in
theorem sg_X6 {κ : gK} : sg κ gS0w 363 (blkX6 κ 363) := by
  intro j e h
  have hj : j < 13 := by
    have := (List.getElem?_eq_some_iff.mp h).1
    have hl := blkX6_len κ 363
    omega
  match j, hj, h with
  | 0, _, h => exact (Option.some.inj h).symm.trans (gE_ob rfl rfl)
  | 1, _, h => exact (Option.some.inj h).symm.trans (gE_ob rfl rfl)
  | 2, _, h => exact (Option.some.inj h).symm.trans (gE_a0 rfl rfl)
  | 3, _, h => exact (Option.some.inj h).symm.trans (gE_ob rfl rfl)
  | 4, _, h => exact (Option.some.inj h).symm.trans (gE_a0 rfl rfl)
  | 5, _, h => exact (Option.some.inj h).symm.trans (gE_ob rfl rfl)
  | 6, _, h => exact (Option.some.inj h).symm.trans (gE_a0 rfl rfl)
  | 7, _, h => exact (Option.some.inj h).symm.trans (gE_ob rfl rfl)
  | 8, _, h => exact (Option.some.inj h).symm.trans (gE_a0 rfl rfl)
  | 9, _, h => exact (Option.some.inj h).symm.trans (gE_ob rfl rfl)
  | 10, _, h => exact (Option.some.inj h).symm.trans (gE_a0 rfl rfl)
  | 11, _, h => exact (Option.some.inj h).symm.trans (gE_ob rfl rfl)
  | 12, _, h => exact (Option.some.inj h).symm.trans (gE_a0 rfl rfl)
  | j + 13, hj, _ => omega
set_option maxHeartbeats 4000000 in
set_option maxRecDepth 100000 in
theorem sg_X11 {κ : gK} : sg κ gS0w 376 (blkX11 κ 376) := by
  intro j e h
  have hj : j < 14 := by
    have := (List.getElem?_eq_some_iff.mp h).1
    have hl := blkX11_len κ 376
    omega
  match j, hj, h with
  | 0, _, h => exact (Option.some.inj h).symm.trans (gE_ob rfl rfl)
  | 1, _, h => exact (Option.some.inj h).symm.trans (gE_a0 rfl rfl)
  | 2, _, h => exact (Option.some.inj h).symm.trans (gE_a0 rfl rfl)
  | 3, _, h => exact (Option.some.inj h).symm.trans (gE_a0 rfl rfl)
  | 4, _, h => exact (Option.some.inj h).symm.trans (gE_a1 rfl rfl)
  | 5, _, h => exact (Option.some.inj h).symm.trans (gE_a0 rfl rfl)
  | 6, _, h => exact (Option.some.inj h).symm.trans (gE_a0 rfl rfl)
  | 7, _, h => exact (Option.some.inj h).symm.trans (gE_a0 rfl rfl)
  | 8, _, h => exact (Option.some.inj h).symm.trans (gE_a0 rfl rfl)
  | 9, _, h => exact (Option.some.inj h).symm.trans (gE_a0 rfl rfl)
  | 10, _, h => exact (Option.some.inj h).symm.trans (gE_a0 rfl rfl)
  | 11, _, h => exact (Option.some.inj h).symm.trans (gE_a0 rfl rfl)
  | 12, _, h => exact (Option.some.inj h).symm.trans (gE_a0 rfl rfl)
  | 13, _, h => exact (Option.some.inj h).symm.trans (gE_a0 rfl rfl)
  | j + 14, hj, _ => omega
theorem sg_Ds {κ : gK} : ∀ i, i ≤ 8 → sg κ gS0w 73 (blkDs κ 71 i)
  | 0, _ => sg.nil
  | i + 1, h => by
    refine sg.app (sg_Ds i (by omega)) (blkDs_len κ 71 i) ?_
    rw [show 71 + (35 * i + 2) = 73 + 35 * i by omega]
    exact sg_X1 (gD_h (by omega)) (fun k hk => gS0_h (by omega) hk)
theorem sg_X3 {κ : gK} : sg κ gS0w 71 (blkX3 κ 71) := by
  refine sg.cons (gE_ob rfl rfl) (sg.cons ?_ (sg_Ds 8 (Nat.le_refl _)))
  have : (fun j => some (κ.2.1 + (71 + (35 * j + 2)))) = (fun j => some (κ.2.1 + (73 + 35 * j))) := funext (fun j => by rw [show 71 + (35 * j + 2) = 73 + 35 * j by omega])
  rw [this]
  rfl
/-- all that is made before the law's loop -/
def gUf (κ : gK) : List va_E := ((blkX10 κ 0 ++ blkX11 κ 376) ++ [.inl (κ.2.2.2.1 2, 1, .inr (.inl (fun j => if j = 0 then 0 else 0)))]) ++ [.inl (κ.2.2.2.1 3, 1, .inr (.inr (.inr (.inl (fun j => if j = 0 then 0 else 0)))))]
theorem sg_X10 {κ : gK} : sg κ gS0w 0 (blkX10 κ 0) := by
  refine sg.cons (gE_ob rfl rfl) ?_
  refine sg.app (n := 362) (sg.app (n := 355) (sg.app (n := 352) (sg.app (n := 70) (sg.app (n := 35) (sg.app (n := 0) sg.nil rfl (sg_X1 gD_1 (fun k hk => gS0_1 hk))) ?_ (sg_X1 gD_36 (fun k hk => gS0_36 hk))) ?_ sg_X3) ?_ sg_X9) ?_ sg_X2) ?_ sg_X6
  all_goals simp only [List.length_append, List.length_nil, blkX1_len, blkX3_len, blkX9_len, blkX2_len]
theorem sg_Uf {κ : gK} : sg κ gS0w 0 (gUf κ) := by
  refine sg.app (n := 391) (sg.app (n := 390) (sg.app (n := 376) sg_X10 (blkX10_len κ 0) sg_X11) ?_ (sg.cons rfl sg.nil)) ?_ (sg.cons rfl sg.nil)
  all_goals simp only [List.length_append, List.length_cons, List.length_nil, blkX10_len, blkX11_len]
theorem gUf_len (κ : gK) : (gUf κ).length = 392 := by
  unfold gUf
  simp only [List.length_append, List.length_cons, List.length_nil, blkX10_len, blkX11_len]
theorem gUf_W (κ : gK) : gWb κ.2.1 (gUf κ) = gW κ gS0w := by
  apply List.ext_getElem?
  intro k
  rw [gWb_at]
  rcases Nat.lt_or_ge k 392 with hk | hk
  · have hk2 : k < (gUf κ).length := by rw [gUf_len]; exact hk
    rw [gW_at hk, List.getElem?_eq_getElem hk2]
    have := sg_Uf (κ := κ) k _ (List.getElem?_eq_getElem hk2)
    rw [Nat.zero_add] at this
    rw [this]
    rfl
  · rw [List.getElem?_eq_none (by rw [gUf_len]; exact hk)]
    have : (gW κ gS0w)[k]? = none := by
      apply List.getElem?_eq_none
      unfold gW
      rw [List.length_map, List.length_range]
      exact hk
    rw [this]
    rfl

/-- nothing told: class and model agree -/
theorem gJ_0 : gJ gS0w := by
  have hng : gNg gS0w = 0 := by decide +kernel
  have hle : ∀ a, a < 48 → gLe gS0w a = none := by decide +kernel
  have hpl : gPl_ gS0w = 0 := by decide +kernel
  have htl : gTl gS0w = 0 := by decide +kernel
  have hkn : nA (gS0w.1 20 5) = 0 := by decide +kernel
  have h71 : nA (gS0w.1 71 2) = 0 := by decide +kernel
  refine ⟨⟨⟨?_, ?_, ?_, ?_, ?_, ?_, ?_⟩, ⟨?_, ?_, ?_⟩, ⟨?_, ?_⟩, ⟨?_, ?_⟩, ?_, ⟨?_, ?_, ?_, ?_, ?_⟩⟩, ⟨?_, ?_, ⟨?_, ?_⟩, ?_, ?_⟩, ⟨⟨?_, ?_, ?_, ?_⟩, ?_, ⟨fun _ => 0, ?_, ?_, ?_, ?_⟩, ?_⟩, ⟨?_, ?_⟩, ⟨?_, Or.inl ?_⟩, ⟨⟨?_, ?_⟩, ⟨?_, ?_⟩, ?_⟩⟩
  · decide +kernel
  · unfold gBd; decide +kernel
  · unfold gBd; decide +kernel
  · unfold gBd; decide +kernel
  · unfold gBd; decide +kernel
  · unfold gBd; decide +kernel
  · unfold gBd; decide +kernel
  · rw [hng]; intro a b h; exact absurd h (by omega)
  · rw [hng]; intro a h; exact absurd h (by omega)
  · intro a _ h; exact hle a h
  · rw [hng]; intro g c h; exact absurd h (by omega)
  · rw [hng]; intro g c p h; exact absurd h (by omega)
  · rw [hng]; intro g h; exact absurd h (by omega)
  · intro g _ h
    have : ∀ g, g < 24 → gS0w.1 6 g = 0 ∧ gS0w.1 31 g = 0 ∧ gS0w.1 22 g = -1 ∧ gS0w.1 24 g = -1 ∧ ∀ t, t < 2 → gS0w.1 15 (g * 2 + t) = 50 := by decide +kernel
    exact this g h
  · intro g h; rw [hng] at h; exact absurd h (by omega)
  · decide +kernel
  · decide +kernel
  · decide +kernel
  · decide +kernel
  · decide +kernel
  · unfold gHW; decide +kernel
  · unfold gTW; decide +kernel
  · decide +kernel
  · unfold gBd; decide +kernel
  · rw [htl]; intro i h; exact absurd h (by omega)
  · rw [hpl]; intro i h; exact absurd h (by omega)
  · decide +kernel
  · decide +kernel
  · decide +kernel
  · decide +kernel
  · decide +kernel
  · rw [hkn]; decide
  · rw [hkn]; intro k h; exact absurd h (by omega)
  · intro x hx h
    have : ∀ x, x < 576 → gS0w.1 28 x = 301 := by decide +kernel
    exact absurd (this x hx) h
  · rw [hkn]; intro k l h; exact absurd h (by omega)
  · rw [hng]; intro g h; exact absurd h (by omega)
  · decide +kernel
  · rw [h71]; intro j h; exact absurd h (by omega)
  · decide +kernel
  · decide +kernel
  · decide +kernel
  · rw [htl]; intro i h; exact absurd h (by omega)
  · decide +kernel
  · rw [hpl]; intro i h; exact absurd h (by omega)
  · decide +kernel
