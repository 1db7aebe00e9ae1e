/-- the world while a glyph is read: place, wrong, too much, contours, what was read -/
def wr (σ : gST) (p : Nat) (w b : Bool) (K : Nat) (rd rm : Nat → Int32) : gST :=
  (fun k => if k = 376 then (fun j => if j = 18 then nI p else if j = 19 then o1 w else if j = 20 then o1 b else if j = 24 then nI K else σ.1 376 j) else if k = 388 then rd else if k = 389 then rm else σ.1 k, σ.2)
section wrs
variable {σ : gST} {p : Nat} {w b : Bool} {K : Nat} {rd rm : Nat → Int32}
theorem wr_p (q : Nat) : gPut (wr σ p w b K rd rm) 376 18 (nI q) = wr σ q w b K rd rm := by
  refine Prod.ext (funext (fun k => funext (fun j => ?_))) rfl
  rw [gPut_at]
  unfold wr
  dsimp only
  by_cases h : k = 376
  · rw [if_pos h, if_pos h]
    by_cases h2 : j = 18
    · rw [if_pos ⟨h, h2⟩, if_pos h2]
    · rw [if_neg (fun h9 => h2 h9.2), if_neg h2, if_neg h2]
  · rw [if_neg (fun h9 => h h9.1), if_neg h, if_neg h]
theorem wr_w (v : Bool) : gPut (wr σ p w b K rd rm) 376 19 (o1 v) = wr σ p v b K rd rm := by
  refine Prod.ext (funext (fun k => funext (fun j => ?_))) rfl
  rw [gPut_at]
  unfold wr
  dsimp only
  by_cases h : k = 376
  · rw [if_pos h, if_pos h]
    by_cases h2 : j = 19
    · rw [if_pos ⟨h, h2⟩, if_neg (by omega), if_pos h2]
    · rw [if_neg (fun h9 => h2 h9.2), if_neg h2, if_neg h2]
  · rw [if_neg (fun h9 => h h9.1), if_neg h, if_neg h]
theorem wr_b (v : Bool) : gPut (wr σ p w b K rd rm) 376 20 (o1 v) = wr σ p w v K rd rm := by
  refine Prod.ext (funext (fun k => funext (fun j => ?_))) rfl
  rw [gPut_at]
  unfold wr
  dsimp only
  by_cases h : k = 376
  · rw [if_pos h, if_pos h]
    by_cases h2 : j = 20
    · rw [if_pos ⟨h, h2⟩, if_neg (by omega), if_neg (by omega), if_pos h2]
    · rw [if_neg (fun h9 => h2 h9.2), if_neg h2, if_neg h2]
  · rw [if_neg (fun h9 => h h9.1), if_neg h, if_neg h]
theorem wr_K (v : Nat) : gPut (wr σ p w b K rd rm) 376 24 (nI v) = wr σ p w b v rd rm := by
  refine Prod.ext (funext (fun k => funext (fun j => ?_))) rfl
  rw [gPut_at]
  unfold wr
  dsimp only
  by_cases h : k = 376
  · rw [if_pos h, if_pos h]
    by_cases h2 : j = 24
    · rw [if_pos ⟨h, h2⟩, if_neg (by omega), if_neg (by omega), if_neg (by omega), if_pos h2]
    · rw [if_neg (fun h9 => h2 h9.2), if_neg h2, if_neg h2]
  · rw [if_neg (fun h9 => h h9.1), if_neg h, if_neg h]
theorem wr_rd (i : Nat) (v : Int32) : gPut (wr σ p w b K rd rm) 388 i v = wr σ p w b K (upd rd i v) rm := by
  refine Prod.ext (funext (fun k => ?_)) rfl
  by_cases h : k = 388
  · subst h
    rw [gPut_s]
    rfl
  · rw [gPut_ne _ _ _ h]
    unfold wr
    dsimp only
    rw [if_neg h, if_neg h]
theorem wr_rm (i : Nat) (v : Int32) : gPut (wr σ p w b K rd rm) 389 i v = wr σ p w b K rd (upd rm i v) := by
  refine Prod.ext (funext (fun k => ?_)) rfl
  by_cases h : k = 389
  · subst h
    rw [gPut_s]
    rfl
  · rw [gPut_ne _ _ _ h]
    unfold wr
    dsimp only
    rw [if_neg h, if_neg h]
end wrs
/-- the sign at a place -/
def hr (t : Nat → Int32) (n p : Nat) : Int32 := if p < n then t p else -1
def dg (c : Int32) : Prop := 48 ≤ c.toInt ∧ c.toInt ≤ 57
/-- wanting a sign -/
def wW (t : Nat → Int32) (n : Nat) (c : Int32) (p : Nat) (w : Bool) : Bool := if w = true ∨ ¬ hr t n p = c then true else false
def wP (t : Nat → Int32) (n : Nat) (c : Int32) (p : Nat) (w : Bool) : Nat := if w = true ∨ ¬ hr t n p = c then p else p + 1
theorem hr_lt {t : Nat → Int32} {n p : Nat} {c : Int32} (h : hr t n p = c) (hc : ¬ c = -1) : p < n := by
  unfold hr at h
  by_cases h1 : p < n
  · exact h1
  · rw [if_neg h1] at h; exact absurd h.symm hc
theorem dg_lt {t : Nat → Int32} {n p : Nat} (h : dg (hr t n p)) : p < n := by
  by_cases h1 : p < n
  · exact h1
  · unfold hr at h; rw [if_neg h1] at h; exact absurd h.1 (by decide)
theorem wP_le {t : Nat → Int32} {n p : Nat} {c : Int32} {w : Bool} (hp : p ≤ n) (hc : ¬ c = -1) : wP t n c p w ≤ n := by
  unfold wP
  split
  · exact hp
  · rename_i h
    have := hr_lt (c := c) (Classical.not_not.mp (fun h9 => h (Or.inr h9))) hc
    omega
theorem o1_0 {w : Bool} : o1 w = 0 ↔ w = false := by cases w <;> decide
/-- the digits after the first -/
def dNum (t : Nat → Int32) (n : Nat) : Nat → Nat → Int32 → Nat × Int32
  | 0, p, v => (p, v)
  | k + 1, p, v => if 0 < v ∧ 48 ≤ (hr t n p).toInt ∧ (hr t n p).toInt ≤ 57 then dNum t n k (p + 1) (10 * v + hr t n p - 48) else (p, v)
theorem dNum_le {t : Nat → Int32} {n : Nat} : ∀ (k p : Nat) (v : Int32), p ≤ n → p ≤ (dNum t n k p v).1 ∧ (dNum t n k p v).1 ≤ n
  | 0, p, v, h => ⟨Nat.le_refl _, h⟩
  | k + 1, p, v, h => by
    unfold dNum
    split
    · rename_i h1
      have h2 := dg_lt h1.2
      have := dNum_le (t := t) (n := n) k (p + 1) (10 * v + hr t n p - 48) (by omega)
      omega
    · exact ⟨Nat.le_refl _, h⟩
def cP1 (t : Nat → Int32) (n p : Nat) (w : Bool) : Nat := if hr t n p = 45 ∧ w = false then p + 1 else p
def cW1 (t : Nat → Int32) (n p : Nat) (w : Bool) : Bool := if w = true ∨ ¬ (48 ≤ (hr t n (cP1 t n p w)).toInt ∧ (hr t n (cP1 t n p w)).toInt ≤ 57) then true else false
def cNu (t : Nat → Int32) (n p : Nat) (w : Bool) : Nat × Int32 := dNum t n 3 (cP1 t n p w + 1) (hr t n (cP1 t n p w) - 48)
def cVs (t : Nat → Int32) (n p : Nat) (w : Bool) : Int32 := if hr t n p = 45 then -(cNu t n p w).2 else (cNu t n p w).2
def cV (t : Nat → Int32) (n p : Nat) (w : Bool) : Int32 := if cW1 t n p w = true then 0 else cVs t n p w
def cP (t : Nat → Int32) (n p : Nat) (w : Bool) : Nat := if cW1 t n p w = true then cP1 t n p w else (cNu t n p w).1
def cB (t : Nat → Int32) (n p : Nat) (w b : Bool) : Bool := if cW1 t n p w = true then b else if b = true ∨ ¬ (-200 ≤ (cVs t n p w).toInt ∧ (cVs t n p w).toInt ≤ 1200) then true else false
theorem cP1_le {t : Nat → Int32} {n p : Nat} {w : Bool} (h : p ≤ n) : p ≤ cP1 t n p w ∧ cP1 t n p w ≤ n := by
  unfold cP1
  split
  · rename_i h1
    have := hr_lt h1.1 (by decide)
    omega
  · omega
theorem cP_le {t : Nat → Int32} {n p : Nat} {w : Bool} (h : p ≤ n) : p ≤ cP t n p w ∧ cP t n p w ≤ n := by
  have h1 := cP1_le (t := t) (w := w) h
  unfold cP
  split
  · exact h1
  · rename_i h2
    have h3 : cP1 t n p w < n := by
      unfold cW1 at h2
      by_cases h4 : w = true ∨ ¬ (48 ≤ (hr t n (cP1 t n p w)).toInt ∧ (hr t n (cP1 t n p w)).toInt ≤ 57)
      · rw [if_pos h4] at h2; exact absurd rfl h2
      · exact dg_lt (Classical.not_not.mp (fun h9 => h4 (Or.inr h9)))
    have := dNum_le (t := t) (n := n) 3 (cP1 t n p w + 1) (hr t n (cP1 t n p w) - 48) h3
    unfold cNu
    omega

set_option maxHeartbeats 4000000 in
set_option maxRecDepth 100000 in
theorem ctX11_here {κ : gK} {σ : gST} {p n : Nat} {w b : Bool} {K : Nat} {rd rm : Nat → Int32} (h7 : σ.1 376 7 = nI n) (h60 : n ≤ 60) (hp : p ≤ n) : gCt κ mX11_here 0 [.ref (κ.2.1 + 376)] (wr σ p w b K rd rm) (.inl (some (.int (hr (σ.1 380) n p)))) (wr σ p w b K rd rm) 0 := by
  refine ct_of (by decide +kernel) rfl (Nat.le_of_ble_eq_true rfl) rfl ?_
  unfold hr
  by_cases h1 : p < n
  · rw [if_pos h1]
    refine go_aload_n (q := 1) (gDec iX11_here_ok 0 rfl) rfl rfl rfl ?_
    refine go_geti (q := 4) fX11_244 (gDec iX11_here_ok 1 rfl) rfl (by decide) rfl ?_
    refine go_top (v' := nI p) (rfl) ?_
    refine go_aload_n (q := 5) (gDec iX11_here_ok 2 rfl) rfl rfl rfl ?_
    refine go_geti (q := 8) fX11_197 (gDec iX11_here_ok 3 rfl) rfl (by decide) rfl ?_
    refine go_top (v' := nI n) (h7) ?_
    refine go_icmp_ge (t := 23) (q := 11) (gDec iX11_here_ok 4 rfl) (by decide) rfl (fun c8 => False.elim (nI_ge (a := p) (b := n) h1 (by omega) c8)) (fun c8 => ?_)
    refine go_aload_n (q := 12) (gDec iX11_here_ok 5 rfl) rfl rfl rfl ?_
    refine go_getr (r' := 380) (q := 15) fX11_19 (gDec iX11_here_ok 6 rfl) rfl (by decide) rfl ?_
    refine go_aload_n (q := 16) (gDec iX11_here_ok 7 rfl) rfl rfl rfl ?_
    refine go_geti (q := 19) fX11_244 (gDec iX11_here_ok 8 rfl) rfl (by decide) rfl ?_
    refine go_top (v' := nI p) (rfl) ?_
    refine go_caldN (q := 20) (gDec iX11_here_ok 9 rfl) rfl (by decide) (by omega) (by decide) rfl ?_
    refine go_top (v' := σ.1 380 p) (rfl) ?_
    refine go_goto (t := 24) (gDec iX11_here_ok 10 rfl) (by decide) ?_
    exact go_ireturn (gDec iX11_here_ok 12 rfl) rfl rfl rfl rfl (by decide)
  · rw [if_neg h1]
    refine go_aload_n (q := 1) (gDec iX11_here_ok 0 rfl) rfl rfl rfl ?_
    refine go_geti (q := 4) fX11_244 (gDec iX11_here_ok 1 rfl) rfl (by decide) rfl ?_
    refine go_top (v' := nI p) (rfl) ?_
    refine go_aload_n (q := 5) (gDec iX11_here_ok 2 rfl) rfl rfl rfl ?_
    refine go_geti (q := 8) fX11_197 (gDec iX11_here_ok 3 rfl) rfl (by decide) rfl ?_
    refine go_top (v' := nI n) (h7) ?_
    refine go_icmp_ge (t := 23) (q := 11) (gDec iX11_here_ok 4 rfl) (by decide) rfl (fun c8 => ?_) (fun c8 => False.elim (c8 (nI_le (by omega) (by omega))))
    refine go_iconst (v := (-1)) (q := 24) (gDec iX11_here_ok 11 rfl) (by decide) rfl ?_
    exact go_ireturn (gDec iX11_here_ok 12 rfl) rfl rfl rfl rfl (by decide)

set_option maxHeartbeats 4000000 in
set_option maxRecDepth 100000 in
theorem ctX11_isDigit {κ : gK} {σ : gST} {p n : Nat} {w b : Bool} {K : Nat} {rd rm : Nat → Int32} (h7 : σ.1 376 7 = nI n) (h60 : n ≤ 60) (hp : p ≤ n) : gCt κ mX11_isDigit 1 [.ref (κ.2.1 + 376)] (wr σ p w b K rd rm) (.inl (some (.int (gWi (hr (σ.1 380) n p).toInt 48 57)))) (wr σ p w b K rd rm) 0 := by
  refine ct_of (by decide +kernel) rfl (Nat.le_of_ble_eq_true rfl) rfl ?_
  refine go_aload_n (q := 1) (gDec iX11_isDigit_ok 0 rfl) rfl rfl rfl ?_
  refine go_callV (n2 := 0) (q := 4) kX11_251 (ctX11_here h7 h60 hp) (gDec iX11_isDigit_ok 1 rfl) rfl rfl (by decide) rfl rfl rfl (Nat.le_of_ble_eq_true rfl) rfl (gFit_rm (by decide) (by decide)) rfl ?_
  refine go_i2l (q := 5) (gDec iX11_isDigit_ok 2 rfl) rfl ?_
  refine go_bipush (v := 48) (q := 7) (gDec iX11_isDigit_ok 3 rfl) (by decide) rfl ?_
  refine go_bipush (v := 57) (q := 9) (gDec iX11_isDigit_ok 4 rfl) (by decide) rfl ?_
  refine go_callS (n2 := 0) (q := 12) kX11_57 ctX11_in (gDec iX11_isDigit_ok 5 rfl) rfl rfl (Nat.le_of_ble_eq_true rfl) rfl (gFit_rm (by decide) (by decide)) rfl ?_
  exact go_ireturn (gDec iX11_isDigit_ok 6 rfl) rfl (gWi_nz _ _ _) (by rw [i2l_toInt]; rfl) rfl (by decide)
set_option maxHeartbeats 4000000 in
set_option maxRecDepth 100000 in
theorem ctX11_wants {κ : gK} {σ : gST} {p n : Nat} {w b : Bool} {K : Nat} {rd rm : Nat → Int32} {c : Int32} (h7 : σ.1 376 7 = nI n) (h60 : n ≤ 60) (hp : p ≤ n) : gCt κ mX11_wants 1 [.ref (κ.2.1 + 376), .int c] (wr σ p w b K rd rm) (.inl none) (wr σ (wP (σ.1 380) n c p w) (wW (σ.1 380) n c p w) b K rd rm) 0 := by
  refine ct_of (by decide +kernel) rfl (Nat.le_of_ble_eq_true rfl) rfl ?_
  cases w with
  | true =>
    rw [show wP (σ.1 380) n c p true = p from if_pos (Or.inl rfl), show wW (σ.1 380) n c p true = true from if_pos (Or.inl rfl)]
    refine go_aload_n (q := 1) (gDec iX11_wants_ok 0 rfl) rfl rfl rfl ?_
    refine go_aload_n (q := 2) (gDec iX11_wants_ok 1 rfl) rfl rfl rfl ?_
    refine go_geti (q := 5) fX11_247 (gDec iX11_wants_ok 2 rfl) rfl (by decide) rfl ?_
    refine go_top (v' := 1) (rfl) ?_
    refine go_if_ne (t := 16) (q := 8) (gDec iX11_wants_ok 3 rfl) (by decide) rfl (fun c5 => ?_) (fun c5 => False.elim (absurd c5 (by decide)))
    refine go_iconst (v := nI 1) (q := 17) (gDec iX11_wants_ok 8 rfl) (by decide) rfl ?_
    refine go_goto (t := 21) (gDec iX11_wants_ok 9 rfl) (by decide) ?_
    refine go_puti (q := 24) fX11_247 gft11 (gDec iX11_wants_ok 11 rfl) rfl (by decide) rfl rfl rfl rfl ?_
    refine go_w (show _ = (wr σ p true b K rd rm) from wr_w true) ?_
    refine go_aload_n (q := 25) (gDec iX11_wants_ok 12 rfl) rfl rfl rfl ?_
    refine go_dup (q := 26) (gDec iX11_wants_ok 13 rfl) rfl rfl ?_
    refine go_geti (q := 29) fX11_244 (gDec iX11_wants_ok 14 rfl) rfl (by decide) rfl ?_
    refine go_top (v' := nI p) (rfl) ?_
    refine go_aload_n (q := 30) (gDec iX11_wants_ok 15 rfl) rfl rfl rfl ?_
    refine go_geti (q := 33) fX11_247 (gDec iX11_wants_ok 16 rfl) rfl (by decide) rfl ?_
    refine go_top (v' := 1) (rfl) ?_
    refine go_if_eq (t := 40) (q := 36) (gDec iX11_wants_ok 17 rfl) (by decide) rfl (fun c33 => False.elim (absurd c33 (by decide))) (fun c33 => ?_)
    refine go_iconst (v := nI 0) (q := 37) (gDec iX11_wants_ok 18 rfl) (by decide) rfl ?_
    refine go_goto (t := 41) (gDec iX11_wants_ok 19 rfl) (by decide) ?_
    refine go_iaddN (c := p + 0) (q := 42) (gDec iX11_wants_ok 21 rfl) rfl rfl ?_
    refine go_puti (q := 45) fX11_244 gft11 (gDec iX11_wants_ok 22 rfl) rfl (by decide) rfl rfl rfl rfl ?_
    refine go_w (show _ = (wr σ p true b K rd rm) from wr_p p) ?_
    exact go_return (gDec iX11_wants_ok 23 rfl) rfl rfl rfl (by decide)
  | false =>
    by_cases h1 : hr (σ.1 380) n p = c
    · rw [show wP (σ.1 380) n c p false = p + 1 from if_neg (fun h9 => h9.elim (fun h8 => by cases h8) (fun h8 => h8 h1)), show wW (σ.1 380) n c p false = false from if_neg (fun h9 => h9.elim (fun h8 => by cases h8) (fun h8 => h8 h1))]
      refine go_aload_n (q := 1) (gDec iX11_wants_ok 0 rfl) rfl rfl rfl ?_
      refine go_aload_n (q := 2) (gDec iX11_wants_ok 1 rfl) rfl rfl rfl ?_
      refine go_geti (q := 5) fX11_247 (gDec iX11_wants_ok 2 rfl) rfl (by decide) rfl ?_
      refine go_top (v' := 0) (rfl) ?_
      refine go_if_ne (t := 16) (q := 8) (gDec iX11_wants_ok 3 rfl) (by decide) rfl (fun c5 => False.elim (c5 rfl)) (fun c5 => ?_)
      refine go_aload_n (q := 9) (gDec iX11_wants_ok 4 rfl) rfl rfl rfl ?_
      refine go_callV (n2 := 0) (q := 12) kX11_251 (ctX11_here (w := false) h7 h60 hp) (gDec iX11_wants_ok 5 rfl) rfl rfl (by decide) rfl rfl rfl (Nat.le_of_ble_eq_true rfl) rfl (gFit_rm (by decide) (by decide)) rfl ?_
      refine go_iload_n (q := 13) (gDec iX11_wants_ok 6 rfl) rfl rfl rfl ?_
      refine go_icmp_eq (t := 20) (q := 16) (gDec iX11_wants_ok 7 rfl) (by decide) rfl (fun c13 => ?_) (fun c13 => False.elim (c13 h1))
      refine go_iconst (v := nI 0) (q := 21) (gDec iX11_wants_ok 10 rfl) (by decide) rfl ?_
      refine go_puti (q := 24) fX11_247 gft11 (gDec iX11_wants_ok 11 rfl) rfl (by decide) rfl rfl rfl rfl ?_
      refine go_w (show _ = (wr σ p false b K rd rm) from wr_w false) ?_
      refine go_aload_n (q := 25) (gDec iX11_wants_ok 12 rfl) rfl rfl rfl ?_
      refine go_dup (q := 26) (gDec iX11_wants_ok 13 rfl) rfl rfl ?_
      refine go_geti (q := 29) fX11_244 (gDec iX11_wants_ok 14 rfl) rfl (by decide) rfl ?_
      refine go_top (v' := nI p) (rfl) ?_
      refine go_aload_n (q := 30) (gDec iX11_wants_ok 15 rfl) rfl rfl rfl ?_
      refine go_geti (q := 33) fX11_247 (gDec iX11_wants_ok 16 rfl) rfl (by decide) rfl ?_
      refine go_top (v' := 0) (rfl) ?_
      refine go_if_eq (t := 40) (q := 36) (gDec iX11_wants_ok 17 rfl) (by decide) rfl (fun c33 => ?_) (fun c33 => False.elim (c33 rfl))
      refine go_iconst (v := nI 1) (q := 41) (gDec iX11_wants_ok 20 rfl) (by decide) rfl ?_
      refine go_iaddN (c := p + 1) (q := 42) (gDec iX11_wants_ok 21 rfl) rfl rfl ?_
      refine go_puti (q := 45) fX11_244 gft11 (gDec iX11_wants_ok 22 rfl) rfl (by decide) rfl rfl rfl rfl ?_
      refine go_w (show _ = (wr σ (p + 1) false b K rd rm) from wr_p (p + 1)) ?_
      exact go_return (gDec iX11_wants_ok 23 rfl) rfl rfl rfl (by decide)
    · rw [show wP (σ.1 380) n c p false = p from if_pos (Or.inr h1), show wW (σ.1 380) n c p false = true from if_pos (Or.inr h1)]
      refine go_aload_n (q := 1) (gDec iX11_wants_ok 0 rfl) rfl rfl rfl ?_
      refine go_aload_n (q := 2) (gDec iX11_wants_ok 1 rfl) rfl rfl rfl ?_
      refine go_geti (q := 5) fX11_247 (gDec iX11_wants_ok 2 rfl) rfl (by decide) rfl ?_
      refine go_top (v' := 0) (rfl) ?_
      refine go_if_ne (t := 16) (q := 8) (gDec iX11_wants_ok 3 rfl) (by decide) rfl (fun c5 => False.elim (c5 rfl)) (fun c5 => ?_)
      refine go_aload_n (q := 9) (gDec iX11_wants_ok 4 rfl) rfl rfl rfl ?_
      refine go_callV (n2 := 0) (q := 12) kX11_251 (ctX11_here (w := false) h7 h60 hp) (gDec iX11_wants_ok 5 rfl) rfl rfl (by decide) rfl rfl rfl (Nat.le_of_ble_eq_true rfl) rfl (gFit_rm (by decide) (by decide)) rfl ?_
      refine go_iload_n (q := 13) (gDec iX11_wants_ok 6 rfl) rfl rfl rfl ?_
      refine go_icmp_eq (t := 20) (q := 16) (gDec iX11_wants_ok 7 rfl) (by decide) rfl (fun c13 => False.elim (h1 c13)) (fun c13 => ?_)
      refine go_iconst (v := nI 1) (q := 17) (gDec iX11_wants_ok 8 rfl) (by decide) rfl ?_
      refine go_goto (t := 21) (gDec iX11_wants_ok 9 rfl) (by decide) ?_
      refine go_puti (q := 24) fX11_247 gft11 (gDec iX11_wants_ok 11 rfl) rfl (by decide) rfl rfl rfl rfl ?_
      refine go_w (show _ = (wr σ p true b K rd rm) from wr_w true) ?_
      refine go_aload_n (q := 25) (gDec iX11_wants_ok 12 rfl) rfl rfl rfl ?_
      refine go_dup (q := 26) (gDec iX11_wants_ok 13 rfl) rfl rfl ?_
      refine go_geti (q := 29) fX11_244 (gDec iX11_wants_ok 14 rfl) rfl (by decide) rfl ?_
      refine go_top (v' := nI p) (rfl) ?_
      refine go_aload_n (q := 30) (gDec iX11_wants_ok 15 rfl) rfl rfl rfl ?_
      refine go_geti (q := 33) fX11_247 (gDec iX11_wants_ok 16 rfl) rfl (by decide) rfl ?_
      refine go_top (v' := 1) (rfl) ?_
      refine go_if_eq (t := 40) (q := 36) (gDec iX11_wants_ok 17 rfl) (by decide) rfl (fun c33 => False.elim (absurd c33 (by decide))) (fun c33 => ?_)
      refine go_iconst (v := nI 0) (q := 37) (gDec iX11_wants_ok 18 rfl) (by decide) rfl ?_
      refine go_goto (t := 41) (gDec iX11_wants_ok 19 rfl) (by decide) ?_
      refine go_iaddN (c := p + 0) (q := 42) (gDec iX11_wants_ok 21 rfl) rfl rfl ?_
      refine go_puti (q := 45) fX11_244 gft11 (gDec iX11_wants_ok 22 rfl) rfl (by decide) rfl rfl rfl rfl ?_
      refine go_w (show _ = (wr σ p true b K rd rm) from wr_p p) ?_
      exact go_return (gDec iX11_wants_ok 23 rfl) rfl rfl rfl (by decide)
