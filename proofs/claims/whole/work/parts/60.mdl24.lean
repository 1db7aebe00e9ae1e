def o3 (b : Bool) : Int32 := if b = true then 3 else 0

set_option maxHeartbeats 4000000 in
set_option maxRecDepth 100000 in
theorem lpX11_stm {κ : gK} {Z : gZ} {σ τ : gST} {i : Nat} {f t : Int32} (hW : gDW τ) (hM : gMR τ (σ.1 377)) (hi : i < gNg τ) : ∀ (m k : Nat) (b : Bool) (q : Nat), k + m = gNs τ i → Go κ mX11_addStem (gRm 9 0) Z 164 [(0, .ref (κ.2.1 + 376)), (1, .int (nI i)), (2, .int f), (3, .int t), (4, .int (nI (gNs τ i))), (5, .int (nI (gLoop (gStQ τ i f) k m q))), (6, .int (nI (gNs τ i)))] [] (gPut σ 376 5 (o3 (gLoop (gStB τ i f t) k m b))) 0 → Go κ mX11_addStem (gRm 9 0) Z 81 [(0, .ref (κ.2.1 + 376)), (1, .int (nI i)), (2, .int f), (3, .int t), (4, .int (nI (gNs τ i))), (5, .int (nI q)), (6, .int (nI k))] [] (gPut σ 376 5 (o3 b)) 0 := by
  have h24 := hW.ng24
  have h4 := hW.ns4 (g := i) (by omega)
  intro m
  induction m with
  | zero =>
    intro k b q hk h
    have hiN : gNs τ i = k := by omega
    rw [← hiN]
    rw [← hiN] at h
    refine go_iload (q := 83) (gDec iX11_addStem_ok 44 rfl) rfl rfl ?_
    refine go_iload (q := 85) (gDec iX11_addStem_ok 45 rfl) rfl rfl ?_
    refine go_icmp_ge (t := 164) (q := 88) (gDec iX11_addStem_ok 46 rfl) (by decide) rfl (fun c85 => ?_) (fun c85 => False.elim (c85 (Int32.le_refl _)))
    exact h
  | succ m ih =>
    intro k b q hk h
    have ih2 := ih (k + 1) (gStB τ i f t k b) (gStQ τ i f k q) (by omega) h
    by_cases h5 : (τ.1 35 (i * 4 + k)) < f
    · by_cases h7 : (τ.1 33 (i * 4 + k)) < f
      · skip
        refine go_iload (q := 83) (gDec iX11_addStem_ok 44 rfl) rfl rfl ?_
        refine go_iload (q := 85) (gDec iX11_addStem_ok 45 rfl) rfl rfl ?_
        refine go_icmp_ge (t := 164) (q := 88) (gDec iX11_addStem_ok 46 rfl) (by decide) rfl (fun c85 => False.elim (nI_ge (a := k) (b := gNs τ i) (by omega) (by omega) c85)) (fun c85 => ?_)
        refine go_aload_n (q := 89) (gDec iX11_addStem_ok 47 rfl) rfl rfl rfl ?_
        refine go_iload_n (q := 90) (gDec iX11_addStem_ok 48 rfl) rfl rfl rfl ?_
        refine go_bipush (v := nI 88) (q := 92) (gDec iX11_addStem_ok 49 rfl) (by decide) rfl ?_
        refine go_iconst (v := nI 2) (q := 93) (gDec iX11_addStem_ok 50 rfl) (by decide) rfl ?_
        refine go_iload (q := 95) (gDec iX11_addStem_ok 51 rfl) rfl rfl ?_
        refine go_imulN (c := 2 * k) (q := 96) (gDec iX11_addStem_ok 52 rfl) rfl rfl ?_
        refine go_iaddN (c := 88 + (2 * k)) (q := 97) (gDec iX11_addStem_ok 53 rfl) rfl rfl ?_
        refine go_callV (n2 := 0) (q := 100) kX11_69 (ctX11_of (g := i) (w := 88 + (2 * k)) (by omega)) (gDec iX11_addStem_ok 54 rfl) rfl rfl (by decide) rfl rfl rfl (Nat.le_of_ble_eq_true rfl) rfl (gFit_rm (by decide) (by decide)) rfl ?_
        refine go_top (v' := τ.1 33 (i * 4 + k)) ((gMRt hM).sl hi (by omega) rfl) ?_
        refine go_istore (q := 102) (gDec iX11_addStem_ok 55 rfl) (by decide) rfl ?_
        refine go_aload_n (q := 103) (gDec iX11_addStem_ok 56 rfl) rfl rfl rfl ?_
        refine go_iload_n (q := 104) (gDec iX11_addStem_ok 57 rfl) rfl rfl rfl ?_
        refine go_bipush (v := nI 88) (q := 106) (gDec iX11_addStem_ok 58 rfl) (by decide) rfl ?_
        refine go_iconst (v := nI 2) (q := 107) (gDec iX11_addStem_ok 59 rfl) (by decide) rfl ?_
        refine go_iload (q := 109) (gDec iX11_addStem_ok 60 rfl) rfl rfl ?_
        refine go_imulN (c := 2 * k) (q := 110) (gDec iX11_addStem_ok 61 rfl) rfl rfl ?_
        refine go_iaddN (c := 88 + (2 * k)) (q := 111) (gDec iX11_addStem_ok 62 rfl) rfl rfl ?_
        refine go_iconst (v := nI 1) (q := 112) (gDec iX11_addStem_ok 63 rfl) (by decide) rfl ?_
        refine go_iaddN (c := 88 + (2 * k) + 1) (q := 113) (gDec iX11_addStem_ok 64 rfl) rfl rfl ?_
        refine go_callV (n2 := 0) (q := 116) kX11_69 (ctX11_of (g := i) (w := 88 + (2 * k) + 1) (by omega)) (gDec iX11_addStem_ok 65 rfl) rfl rfl (by decide) rfl rfl rfl (Nat.le_of_ble_eq_true rfl) rfl (gFit_rm (by decide) (by decide)) rfl ?_
        refine go_top (v' := τ.1 35 (i * 4 + k)) ((gMRt hM).sr hi (by omega) rfl) ?_
        refine go_istore (q := 118) (gDec iX11_addStem_ok 66 rfl) (by decide) rfl ?_
        refine go_aload_n (q := 119) (gDec iX11_addStem_ok 67 rfl) rfl rfl rfl ?_
        refine go_iload_n (q := 120) (gDec iX11_addStem_ok 68 rfl) rfl rfl rfl ?_
        refine go_iload (q := 122) (gDec iX11_addStem_ok 69 rfl) rfl rfl ?_
        refine go_icmp_gt (t := 135) (q := 125) (gDec iX11_addStem_ok 70 rfl) (by decide) rfl (fun c122 => ?_) (fun c122 => False.elim (c122 h5))
        refine go_aload_n (q := 136) (gDec iX11_addStem_ok 76 rfl) rfl rfl rfl ?_
        refine go_geti (q := 139) fX11_54 (gDec iX11_addStem_ok 77 rfl) rfl (by decide) rfl ?_
        refine go_top (v' := o3 b) (rfl) ?_
        refine go_puti (q := 142) fX11_54 gft11 (gDec iX11_addStem_ok 78 rfl) rfl (by decide) rfl rfl rfl rfl ?_
        refine go_w (show _ = gPut σ 376 5 (o3 b) from (gPut_tw _ _ _ _ _)) ?_
        refine go_iload (q := 144) (gDec iX11_addStem_ok 79 rfl) rfl rfl ?_
        refine go_iload (q := 146) (gDec iX11_addStem_ok 80 rfl) rfl rfl ?_
        refine go_iload_n (q := 147) (gDec iX11_addStem_ok 81 rfl) rfl rfl rfl ?_
        refine go_icmp_ge (t := 154) (q := 150) (gDec iX11_addStem_ok 82 rfl) (by decide) rfl (fun c147 => False.elim (absurd h7 (Int32.not_lt.mpr c147))) (fun c147 => ?_)
        refine go_iconst (v := nI 1) (q := 151) (gDec iX11_addStem_ok 83 rfl) (by decide) rfl ?_
        refine go_goto (t := 155) (gDec iX11_addStem_ok 84 rfl) (by decide) ?_
        refine go_iaddN (c := q + 1) (q := 156) (gDec iX11_addStem_ok 86 rfl) rfl rfl ?_
        refine go_istore (q := 158) (gDec iX11_addStem_ok 87 rfl) (by decide) rfl ?_
        refine go_iinc (v := nI (k + 1)) (q := 161) (gDec iX11_addStem_ok 88 rfl) rfl (nI_1 _) (by decide) rfl ?_
        refine go_goto (t := 81) (gDec iX11_addStem_ok 89 rfl) (by decide) ?_
        rw [show gStB τ i f t k b = b from if_neg (fun h9 => absurd h5 (Int32.not_lt.mpr h9.1)), show gStQ τ i f k q = (q + 1) from if_pos h7] at ih2
        refine go_sub (L' := [(0, .ref (κ.2.1 + 376)), (1, .int (nI i)), (2, .int f), (3, .int t), (4, .int (nI (gNs τ i))), (5, .int (nI (q + 1))), (6, .int (nI (k + 1)))]) ⟨rfl, rfl, rfl, rfl, rfl, rfl, rfl, trivial⟩ ?_
        exact ih2
      · skip
        refine go_iload (q := 83) (gDec iX11_addStem_ok 44 rfl) rfl rfl ?_
        refine go_iload (q := 85) (gDec iX11_addStem_ok 45 rfl) rfl rfl ?_
        refine go_icmp_ge (t := 164) (q := 88) (gDec iX11_addStem_ok 46 rfl) (by decide) rfl (fun c85 => False.elim (nI_ge (a := k) (b := gNs τ i) (by omega) (by omega) c85)) (fun c85 => ?_)
        refine go_aload_n (q := 89) (gDec iX11_addStem_ok 47 rfl) rfl rfl rfl ?_
        refine go_iload_n (q := 90) (gDec iX11_addStem_ok 48 rfl) rfl rfl rfl ?_
        refine go_bipush (v := nI 88) (q := 92) (gDec iX11_addStem_ok 49 rfl) (by decide) rfl ?_
        refine go_iconst (v := nI 2) (q := 93) (gDec iX11_addStem_ok 50 rfl) (by decide) rfl ?_
        refine go_iload (q := 95) (gDec iX11_addStem_ok 51 rfl) rfl rfl ?_
        refine go_imulN (c := 2 * k) (q := 96) (gDec iX11_addStem_ok 52 rfl) rfl rfl ?_
        refine go_iaddN (c := 88 + (2 * k)) (q := 97) (gDec iX11_addStem_ok 53 rfl) rfl rfl ?_
        refine go_callV (n2 := 0) (q := 100) kX11_69 (ctX11_of (g := i) (w := 88 + (2 * k)) (by omega)) (gDec iX11_addStem_ok 54 rfl) rfl rfl (by decide) rfl rfl rfl (Nat.le_of_ble_eq_true rfl) rfl (gFit_rm (by decide) (by decide)) rfl ?_
        refine go_top (v' := τ.1 33 (i * 4 + k)) ((gMRt hM).sl hi (by omega) rfl) ?_
        refine go_istore (q := 102) (gDec iX11_addStem_ok 55 rfl) (by decide) rfl ?_
        refine go_aload_n (q := 103) (gDec iX11_addStem_ok 56 rfl) rfl rfl rfl ?_
        refine go_iload_n (q := 104) (gDec iX11_addStem_ok 57 rfl) rfl rfl rfl ?_
        refine go_bipush (v := nI 88) (q := 106) (gDec iX11_addStem_ok 58 rfl) (by decide) rfl ?_
        refine go_iconst (v := nI 2) (q := 107) (gDec iX11_addStem_ok 59 rfl) (by decide) rfl ?_
        refine go_iload (q := 109) (gDec iX11_addStem_ok 60 rfl) rfl rfl ?_
        refine go_imulN (c := 2 * k) (q := 110) (gDec iX11_addStem_ok 61 rfl) rfl rfl ?_
        refine go_iaddN (c := 88 + (2 * k)) (q := 111) (gDec iX11_addStem_ok 62 rfl) rfl rfl ?_
        refine go_iconst (v := nI 1) (q := 112) (gDec iX11_addStem_ok 63 rfl) (by decide) rfl ?_
        refine go_iaddN (c := 88 + (2 * k) + 1) (q := 113) (gDec iX11_addStem_ok 64 rfl) rfl rfl ?_
        refine go_callV (n2 := 0) (q := 116) kX11_69 (ctX11_of (g := i) (w := 88 + (2 * k) + 1) (by omega)) (gDec iX11_addStem_ok 65 rfl) rfl rfl (by decide) rfl rfl rfl (Nat.le_of_ble_eq_true rfl) rfl (gFit_rm (by decide) (by decide)) rfl ?_
        refine go_top (v' := τ.1 35 (i * 4 + k)) ((gMRt hM).sr hi (by omega) rfl) ?_
        refine go_istore (q := 118) (gDec iX11_addStem_ok 66 rfl) (by decide) rfl ?_
        refine go_aload_n (q := 119) (gDec iX11_addStem_ok 67 rfl) rfl rfl rfl ?_
        refine go_iload_n (q := 120) (gDec iX11_addStem_ok 68 rfl) rfl rfl rfl ?_
        refine go_iload (q := 122) (gDec iX11_addStem_ok 69 rfl) rfl rfl ?_
        refine go_icmp_gt (t := 135) (q := 125) (gDec iX11_addStem_ok 70 rfl) (by decide) rfl (fun c122 => ?_) (fun c122 => False.elim (c122 h5))
        refine go_aload_n (q := 136) (gDec iX11_addStem_ok 76 rfl) rfl rfl rfl ?_
        refine go_geti (q := 139) fX11_54 (gDec iX11_addStem_ok 77 rfl) rfl (by decide) rfl ?_
        refine go_top (v' := o3 b) (rfl) ?_
        refine go_puti (q := 142) fX11_54 gft11 (gDec iX11_addStem_ok 78 rfl) rfl (by decide) rfl rfl rfl rfl ?_
        refine go_w (show _ = gPut σ 376 5 (o3 b) from (gPut_tw _ _ _ _ _)) ?_
        refine go_iload (q := 144) (gDec iX11_addStem_ok 79 rfl) rfl rfl ?_
        refine go_iload (q := 146) (gDec iX11_addStem_ok 80 rfl) rfl rfl ?_
        refine go_iload_n (q := 147) (gDec iX11_addStem_ok 81 rfl) rfl rfl rfl ?_
        refine go_icmp_ge (t := 154) (q := 150) (gDec iX11_addStem_ok 82 rfl) (by decide) rfl (fun c147 => ?_) (fun c147 => False.elim (h7 (Int32.not_le.mp c147)))
        refine go_iconst (v := nI 0) (q := 155) (gDec iX11_addStem_ok 85 rfl) (by decide) rfl ?_
        refine go_iaddN (c := q + 0) (q := 156) (gDec iX11_addStem_ok 86 rfl) rfl rfl ?_
        refine go_istore (q := 158) (gDec iX11_addStem_ok 87 rfl) (by decide) rfl ?_
        refine go_iinc (v := nI (k + 1)) (q := 161) (gDec iX11_addStem_ok 88 rfl) rfl (nI_1 _) (by decide) rfl ?_
        refine go_goto (t := 81) (gDec iX11_addStem_ok 89 rfl) (by decide) ?_
        rw [show gStB τ i f t k b = b from if_neg (fun h9 => absurd h5 (Int32.not_lt.mpr h9.1)), show gStQ τ i f k q = (q + 0) from (if_neg h7).trans (Nat.add_zero q).symm] at ih2
        refine go_sub (L' := [(0, .ref (κ.2.1 + 376)), (1, .int (nI i)), (2, .int f), (3, .int t), (4, .int (nI (gNs τ i))), (5, .int (nI (q + 0))), (6, .int (nI (k + 1)))]) ⟨rfl, rfl, rfl, rfl, rfl, rfl, rfl, trivial⟩ ?_
        exact ih2
    · by_cases h6 : t < (τ.1 33 (i * 4 + k))
      · by_cases h7 : (τ.1 33 (i * 4 + k)) < f
        · skip
          refine go_iload (q := 83) (gDec iX11_addStem_ok 44 rfl) rfl rfl ?_
          refine go_iload (q := 85) (gDec iX11_addStem_ok 45 rfl) rfl rfl ?_
          refine go_icmp_ge (t := 164) (q := 88) (gDec iX11_addStem_ok 46 rfl) (by decide) rfl (fun c85 => False.elim (nI_ge (a := k) (b := gNs τ i) (by omega) (by omega) c85)) (fun c85 => ?_)
          refine go_aload_n (q := 89) (gDec iX11_addStem_ok 47 rfl) rfl rfl rfl ?_
          refine go_iload_n (q := 90) (gDec iX11_addStem_ok 48 rfl) rfl rfl rfl ?_
          refine go_bipush (v := nI 88) (q := 92) (gDec iX11_addStem_ok 49 rfl) (by decide) rfl ?_
          refine go_iconst (v := nI 2) (q := 93) (gDec iX11_addStem_ok 50 rfl) (by decide) rfl ?_
          refine go_iload (q := 95) (gDec iX11_addStem_ok 51 rfl) rfl rfl ?_
          refine go_imulN (c := 2 * k) (q := 96) (gDec iX11_addStem_ok 52 rfl) rfl rfl ?_
          refine go_iaddN (c := 88 + (2 * k)) (q := 97) (gDec iX11_addStem_ok 53 rfl) rfl rfl ?_
          refine go_callV (n2 := 0) (q := 100) kX11_69 (ctX11_of (g := i) (w := 88 + (2 * k)) (by omega)) (gDec iX11_addStem_ok 54 rfl) rfl rfl (by decide) rfl rfl rfl (Nat.le_of_ble_eq_true rfl) rfl (gFit_rm (by decide) (by decide)) rfl ?_
          refine go_top (v' := τ.1 33 (i * 4 + k)) ((gMRt hM).sl hi (by omega) rfl) ?_
          refine go_istore (q := 102) (gDec iX11_addStem_ok 55 rfl) (by decide) rfl ?_
          refine go_aload_n (q := 103) (gDec iX11_addStem_ok 56 rfl) rfl rfl rfl ?_
          refine go_iload_n (q := 104) (gDec iX11_addStem_ok 57 rfl) rfl rfl rfl ?_
          refine go_bipush (v := nI 88) (q := 106) (gDec iX11_addStem_ok 58 rfl) (by decide) rfl ?_
          refine go_iconst (v := nI 2) (q := 107) (gDec iX11_addStem_ok 59 rfl) (by decide) rfl ?_
          refine go_iload (q := 109) (gDec iX11_addStem_ok 60 rfl) rfl rfl ?_
          refine go_imulN (c := 2 * k) (q := 110) (gDec iX11_addStem_ok 61 rfl) rfl rfl ?_
          refine go_iaddN (c := 88 + (2 * k)) (q := 111) (gDec iX11_addStem_ok 62 rfl) rfl rfl ?_
          refine go_iconst (v := nI 1) (q := 112) (gDec iX11_addStem_ok 63 rfl) (by decide) rfl ?_
          refine go_iaddN (c := 88 + (2 * k) + 1) (q := 113) (gDec iX11_addStem_ok 64 rfl) rfl rfl ?_
          refine go_callV (n2 := 0) (q := 116) kX11_69 (ctX11_of (g := i) (w := 88 + (2 * k) + 1) (by omega)) (gDec iX11_addStem_ok 65 rfl) rfl rfl (by decide) rfl rfl rfl (Nat.le_of_ble_eq_true rfl) rfl (gFit_rm (by decide) (by decide)) rfl ?_
          refine go_top (v' := τ.1 35 (i * 4 + k)) ((gMRt hM).sr hi (by omega) rfl) ?_
          refine go_istore (q := 118) (gDec iX11_addStem_ok 66 rfl) (by decide) rfl ?_
          refine go_aload_n (q := 119) (gDec iX11_addStem_ok 67 rfl) rfl rfl rfl ?_
          refine go_iload_n (q := 120) (gDec iX11_addStem_ok 68 rfl) rfl rfl rfl ?_
          refine go_iload (q := 122) (gDec iX11_addStem_ok 69 rfl) rfl rfl ?_
          refine go_icmp_gt (t := 135) (q := 125) (gDec iX11_addStem_ok 70 rfl) (by decide) rfl (fun c122 => False.elim (h5 c122)) (fun c122 => ?_)
          refine go_iload_n (q := 126) (gDec iX11_addStem_ok 71 rfl) rfl rfl rfl ?_
          refine go_iload (q := 128) (gDec iX11_addStem_ok 72 rfl) rfl rfl ?_
          refine go_icmp_lt (t := 135) (q := 131) (gDec iX11_addStem_ok 73 rfl) (by decide) rfl (fun c128 => ?_) (fun c128 => False.elim (c128 h6))
          refine go_aload_n (q := 136) (gDec iX11_addStem_ok 76 rfl) rfl rfl rfl ?_
          refine go_geti (q := 139) fX11_54 (gDec iX11_addStem_ok 77 rfl) rfl (by decide) rfl ?_
          refine go_top (v' := o3 b) (rfl) ?_
          refine go_puti (q := 142) fX11_54 gft11 (gDec iX11_addStem_ok 78 rfl) rfl (by decide) rfl rfl rfl rfl ?_
          refine go_w (show _ = gPut σ 376 5 (o3 b) from (gPut_tw _ _ _ _ _)) ?_
          refine go_iload (q := 144) (gDec iX11_addStem_ok 79 rfl) rfl rfl ?_
          refine go_iload (q := 146) (gDec iX11_addStem_ok 80 rfl) rfl rfl ?_
          refine go_iload_n (q := 147) (gDec iX11_addStem_ok 81 rfl) rfl rfl rfl ?_
          refine go_icmp_ge (t := 154) (q := 150) (gDec iX11_addStem_ok 82 rfl) (by decide) rfl (fun c147 => False.elim (absurd h7 (Int32.not_lt.mpr c147))) (fun c147 => ?_)
          refine go_iconst (v := nI 1) (q := 151) (gDec iX11_addStem_ok 83 rfl) (by decide) rfl ?_
          refine go_goto (t := 155) (gDec iX11_addStem_ok 84 rfl) (by decide) ?_
          refine go_iaddN (c := q + 1) (q := 156) (gDec iX11_addStem_ok 86 rfl) rfl rfl ?_
          refine go_istore (q := 158) (gDec iX11_addStem_ok 87 rfl) (by decide) rfl ?_
          refine go_iinc (v := nI (k + 1)) (q := 161) (gDec iX11_addStem_ok 88 rfl) rfl (nI_1 _) (by decide) rfl ?_
          refine go_goto (t := 81) (gDec iX11_addStem_ok 89 rfl) (by decide) ?_
          rw [show gStB τ i f t k b = b from if_neg (fun h9 => absurd h6 (Int32.not_lt.mpr h9.2)), show gStQ τ i f k q = (q + 1) from if_pos h7] at ih2
          refine go_sub (L' := [(0, .ref (κ.2.1 + 376)), (1, .int (nI i)), (2, .int f), (3, .int t), (4, .int (nI (gNs τ i))), (5, .int (nI (q + 1))), (6, .int (nI (k + 1)))]) ⟨rfl, rfl, rfl, rfl, rfl, rfl, rfl, trivial⟩ ?_
          exact ih2
        · skip
          refine go_iload (q := 83) (gDec iX11_addStem_ok 44 rfl) rfl rfl ?_
          refine go_iload (q := 85) (gDec iX11_addStem_ok 45 rfl) rfl rfl ?_
          refine go_icmp_ge (t := 164) (q := 88) (gDec iX11_addStem_ok 46 rfl) (by decide) rfl (fun c85 => False.elim (nI_ge (a := k) (b := gNs τ i) (by omega) (by omega) c85)) (fun c85 => ?_)
          refine go_aload_n (q := 89) (gDec iX11_addStem_ok 47 rfl) rfl rfl rfl ?_
          refine go_iload_n (q := 90) (gDec iX11_addStem_ok 48 rfl) rfl rfl rfl ?_
          refine go_bipush (v := nI 88) (q := 92) (gDec iX11_addStem_ok 49 rfl) (by decide) rfl ?_
          refine go_iconst (v := nI 2) (q := 93) (gDec iX11_addStem_ok 50 rfl) (by decide) rfl ?_
          refine go_iload (q := 95) (gDec iX11_addStem_ok 51 rfl) rfl rfl ?_
          refine go_imulN (c := 2 * k) (q := 96) (gDec iX11_addStem_ok 52 rfl) rfl rfl ?_
          refine go_iaddN (c := 88 + (2 * k)) (q := 97) (gDec iX11_addStem_ok 53 rfl) rfl rfl ?_
          refine go_callV (n2 := 0) (q := 100) kX11_69 (ctX11_of (g := i) (w := 88 + (2 * k)) (by omega)) (gDec iX11_addStem_ok 54 rfl) rfl rfl (by decide) rfl rfl rfl (Nat.le_of_ble_eq_true rfl) rfl (gFit_rm (by decide) (by decide)) rfl ?_
          refine go_top (v' := τ.1 33 (i * 4 + k)) ((gMRt hM).sl hi (by omega) rfl) ?_
          refine go_istore (q := 102) (gDec iX11_addStem_ok 55 rfl) (by decide) rfl ?_
          refine go_aload_n (q := 103) (gDec iX11_addStem_ok 56 rfl) rfl rfl rfl ?_
          refine go_iload_n (q := 104) (gDec iX11_addStem_ok 57 rfl) rfl rfl rfl ?_
          refine go_bipush (v := nI 88) (q := 106) (gDec iX11_addStem_ok 58 rfl) (by decide) rfl ?_
          refine go_iconst (v := nI 2) (q := 107) (gDec iX11_addStem_ok 59 rfl) (by decide) rfl ?_
          refine go_iload (q := 109) (gDec iX11_addStem_ok 60 rfl) rfl rfl ?_
          refine go_imulN (c := 2 * k) (q := 110) (gDec iX11_addStem_ok 61 rfl) rfl rfl ?_
          refine go_iaddN (c := 88 + (2 * k)) (q := 111) (gDec iX11_addStem_ok 62 rfl) rfl rfl ?_
          refine go_iconst (v := nI 1) (q := 112) (gDec iX11_addStem_ok 63 rfl) (by decide) rfl ?_
          refine go_iaddN (c := 88 + (2 * k) + 1) (q := 113) (gDec iX11_addStem_ok 64 rfl) rfl rfl ?_
          refine go_callV (n2 := 0) (q := 116) kX11_69 (ctX11_of (g := i) (w := 88 + (2 * k) + 1) (by omega)) (gDec iX11_addStem_ok 65 rfl) rfl rfl (by decide) rfl rfl rfl (Nat.le_of_ble_eq_true rfl) rfl (gFit_rm (by decide) (by decide)) rfl ?_
          refine go_top (v' := τ.1 35 (i * 4 + k)) ((gMRt hM).sr hi (by omega) rfl) ?_
          refine go_istore (q := 118) (gDec iX11_addStem_ok 66 rfl) (by decide) rfl ?_
          refine go_aload_n (q := 119) (gDec iX11_addStem_ok 67 rfl) rfl rfl rfl ?_
          refine go_iload_n (q := 120) (gDec iX11_addStem_ok 68 rfl) rfl rfl rfl ?_
          refine go_iload (q := 122) (gDec iX11_addStem_ok 69 rfl) rfl rfl ?_
          refine go_icmp_gt (t := 135) (q := 125) (gDec iX11_addStem_ok 70 rfl) (by decide) rfl (fun c122 => False.elim (h5 c122)) (fun c122 => ?_)
          refine go_iload_n (q := 126) (gDec iX11_addStem_ok 71 rfl) rfl rfl rfl ?_
          refine go_iload (q := 128) (gDec iX11_addStem_ok 72 rfl) rfl rfl ?_
          refine go_icmp_lt (t := 135) (q := 131) (gDec iX11_addStem_ok 73 rfl) (by decide) rfl (fun c128 => ?_) (fun c128 => False.elim (c128 h6))
          refine go_aload_n (q := 136) (gDec iX11_addStem_ok 76 rfl) rfl rfl rfl ?_
          refine go_geti (q := 139) fX11_54 (gDec iX11_addStem_ok 77 rfl) rfl (by decide) rfl ?_
          refine go_top (v' := o3 b) (rfl) ?_
          refine go_puti (q := 142) fX11_54 gft11 (gDec iX11_addStem_ok 78 rfl) rfl (by decide) rfl rfl rfl rfl ?_
          refine go_w (show _ = gPut σ 376 5 (o3 b) from (gPut_tw _ _ _ _ _)) ?_
          refine go_iload (q := 144) (gDec iX11_addStem_ok 79 rfl) rfl rfl ?_
          refine go_iload (q := 146) (gDec iX11_addStem_ok 80 rfl) rfl rfl ?_
          refine go_iload_n (q := 147) (gDec iX11_addStem_ok 81 rfl) rfl rfl rfl ?_
          refine go_icmp_ge (t := 154) (q := 150) (gDec iX11_addStem_ok 82 rfl) (by decide) rfl (fun c147 => ?_) (fun c147 => False.elim (h7 (Int32.not_le.mp c147)))
          refine go_iconst (v := nI 0) (q := 155) (gDec iX11_addStem_ok 85 rfl) (by decide) rfl ?_
          refine go_iaddN (c := q + 0) (q := 156) (gDec iX11_addStem_ok 86 rfl) rfl rfl ?_
          refine go_istore (q := 158) (gDec iX11_addStem_ok 87 rfl) (by decide) rfl ?_
          refine go_iinc (v := nI (k + 1)) (q := 161) (gDec iX11_addStem_ok 88 rfl) rfl (nI_1 _) (by decide) rfl ?_
          refine go_goto (t := 81) (gDec iX11_addStem_ok 89 rfl) (by decide) ?_
          rw [show gStB τ i f t k b = b from if_neg (fun h9 => absurd h6 (Int32.not_lt.mpr h9.2)), show gStQ τ i f k q = (q + 0) from (if_neg h7).trans (Nat.add_zero q).symm] at ih2
          refine go_sub (L' := [(0, .ref (κ.2.1 + 376)), (1, .int (nI i)), (2, .int f), (3, .int t), (4, .int (nI (gNs τ i))), (5, .int (nI (q + 0))), (6, .int (nI (k + 1)))]) ⟨rfl, rfl, rfl, rfl, rfl, rfl, rfl, trivial⟩ ?_
          exact ih2
      · by_cases h7 : (τ.1 33 (i * 4 + k)) < f
        · skip
          refine go_iload (q := 83) (gDec iX11_addStem_ok 44 rfl) rfl rfl ?_
          refine go_iload (q := 85) (gDec iX11_addStem_ok 45 rfl) rfl rfl ?_
          refine go_icmp_ge (t := 164) (q := 88) (gDec iX11_addStem_ok 46 rfl) (by decide) rfl (fun c85 => False.elim (nI_ge (a := k) (b := gNs τ i) (by omega) (by omega) c85)) (fun c85 => ?_)
          refine go_aload_n (q := 89) (gDec iX11_addStem_ok 47 rfl) rfl rfl rfl ?_
          refine go_iload_n (q := 90) (gDec iX11_addStem_ok 48 rfl) rfl rfl rfl ?_
          refine go_bipush (v := nI 88) (q := 92) (gDec iX11_addStem_ok 49 rfl) (by decide) rfl ?_
          refine go_iconst (v := nI 2) (q := 93) (gDec iX11_addStem_ok 50 rfl) (by decide) rfl ?_
          refine go_iload (q := 95) (gDec iX11_addStem_ok 51 rfl) rfl rfl ?_
          refine go_imulN (c := 2 * k) (q := 96) (gDec iX11_addStem_ok 52 rfl) rfl rfl ?_
          refine go_iaddN (c := 88 + (2 * k)) (q := 97) (gDec iX11_addStem_ok 53 rfl) rfl rfl ?_
          refine go_callV (n2 := 0) (q := 100) kX11_69 (ctX11_of (g := i) (w := 88 + (2 * k)) (by omega)) (gDec iX11_addStem_ok 54 rfl) rfl rfl (by decide) rfl rfl rfl (Nat.le_of_ble_eq_true rfl) rfl (gFit_rm (by decide) (by decide)) rfl ?_
          refine go_top (v' := τ.1 33 (i * 4 + k)) ((gMRt hM).sl hi (by omega) rfl) ?_
          refine go_istore (q := 102) (gDec iX11_addStem_ok 55 rfl) (by decide) rfl ?_
          refine go_aload_n (q := 103) (gDec iX11_addStem_ok 56 rfl) rfl rfl rfl ?_
          refine go_iload_n (q := 104) (gDec iX11_addStem_ok 57 rfl) rfl rfl rfl ?_
          refine go_bipush (v := nI 88) (q := 106) (gDec iX11_addStem_ok 58 rfl) (by decide) rfl ?_
          refine go_iconst (v := nI 2) (q := 107) (gDec iX11_addStem_ok 59 rfl) (by decide) rfl ?_
          refine go_iload (q := 109) (gDec iX11_addStem_ok 60 rfl) rfl rfl ?_
          refine go_imulN (c := 2 * k) (q := 110) (gDec iX11_addStem_ok 61 rfl) rfl rfl ?_
          refine go_iaddN (c := 88 + (2 * k)) (q := 111) (gDec iX11_addStem_ok 62 rfl) rfl rfl ?_
          refine go_iconst (v := nI 1) (q := 112) (gDec iX11_addStem_ok 63 rfl) (by decide) rfl ?_
          refine go_iaddN (c := 88 + (2 * k) + 1) (q := 113) (gDec iX11_addStem_ok 64 rfl) rfl rfl ?_
          refine go_callV (n2 := 0) (q := 116) kX11_69 (ctX11_of (g := i) (w := 88 + (2 * k) + 1) (by omega)) (gDec iX11_addStem_ok 65 rfl) rfl rfl (by decide) rfl rfl rfl (Nat.le_of_ble_eq_true rfl) rfl (gFit_rm (by decide) (by decide)) rfl ?_
          refine go_top (v' := τ.1 35 (i * 4 + k)) ((gMRt hM).sr hi (by omega) rfl) ?_
          refine go_istore (q := 118) (gDec iX11_addStem_ok 66 rfl) (by decide) rfl ?_
          refine go_aload_n (q := 119) (gDec iX11_addStem_ok 67 rfl) rfl rfl rfl ?_
          refine go_iload_n (q := 120) (gDec iX11_addStem_ok 68 rfl) rfl rfl rfl ?_
          refine go_iload (q := 122) (gDec iX11_addStem_ok 69 rfl) rfl rfl ?_
          refine go_icmp_gt (t := 135) (q := 125) (gDec iX11_addStem_ok 70 rfl) (by decide) rfl (fun c122 => False.elim (h5 c122)) (fun c122 => ?_)
          refine go_iload_n (q := 126) (gDec iX11_addStem_ok 71 rfl) rfl rfl rfl ?_
          refine go_iload (q := 128) (gDec iX11_addStem_ok 72 rfl) rfl rfl ?_
          refine go_icmp_lt (t := 135) (q := 131) (gDec iX11_addStem_ok 73 rfl) (by decide) rfl (fun c128 => False.elim (h6 c128)) (fun c128 => ?_)
          refine go_iconst (v := 3) (q := 132) (gDec iX11_addStem_ok 74 rfl) (by decide) rfl ?_
          refine go_goto (t := 139) (gDec iX11_addStem_ok 75 rfl) (by decide) ?_
          refine go_puti (q := 142) fX11_54 gft11 (gDec iX11_addStem_ok 78 rfl) rfl (by decide) rfl rfl rfl rfl ?_
          refine go_w (show _ = gPut σ 376 5 (o3 true) from (gPut_tw _ _ _ _ _)) ?_
          refine go_iload (q := 144) (gDec iX11_addStem_ok 79 rfl) rfl rfl ?_
          refine go_iload (q := 146) (gDec iX11_addStem_ok 80 rfl) rfl rfl ?_
          refine go_iload_n (q := 147) (gDec iX11_addStem_ok 81 rfl) rfl rfl rfl ?_
          refine go_icmp_ge (t := 154) (q := 150) (gDec iX11_addStem_ok 82 rfl) (by decide) rfl (fun c147 => False.elim (absurd h7 (Int32.not_lt.mpr c147))) (fun c147 => ?_)
          refine go_iconst (v := nI 1) (q := 151) (gDec iX11_addStem_ok 83 rfl) (by decide) rfl ?_
          refine go_goto (t := 155) (gDec iX11_addStem_ok 84 rfl) (by decide) ?_
          refine go_iaddN (c := q + 1) (q := 156) (gDec iX11_addStem_ok 86 rfl) rfl rfl ?_
          refine go_istore (q := 158) (gDec iX11_addStem_ok 87 rfl) (by decide) rfl ?_
          refine go_iinc (v := nI (k + 1)) (q := 161) (gDec iX11_addStem_ok 88 rfl) rfl (nI_1 _) (by decide) rfl ?_
          refine go_goto (t := 81) (gDec iX11_addStem_ok 89 rfl) (by decide) ?_
          rw [show gStB τ i f t k b = true from if_pos ⟨Int32.not_lt.mp h5, Int32.not_lt.mp h6⟩, show gStQ τ i f k q = (q + 1) from if_pos h7] at ih2
          refine go_sub (L' := [(0, .ref (κ.2.1 + 376)), (1, .int (nI i)), (2, .int f), (3, .int t), (4, .int (nI (gNs τ i))), (5, .int (nI (q + 1))), (6, .int (nI (k + 1)))]) ⟨rfl, rfl, rfl, rfl, rfl, rfl, rfl, trivial⟩ ?_
          exact ih2
        · skip
          refine go_iload (q := 83) (gDec iX11_addStem_ok 44 rfl) rfl rfl ?_
          refine go_iload (q := 85) (gDec iX11_addStem_ok 45 rfl) rfl rfl ?_
          refine go_icmp_ge (t := 164) (q := 88) (gDec iX11_addStem_ok 46 rfl) (by decide) rfl (fun c85 => False.elim (nI_ge (a := k) (b := gNs τ i) (by omega) (by omega) c85)) (fun c85 => ?_)
          refine go_aload_n (q := 89) (gDec iX11_addStem_ok 47 rfl) rfl rfl rfl ?_
          refine go_iload_n (q := 90) (gDec iX11_addStem_ok 48 rfl) rfl rfl rfl ?_
          refine go_bipush (v := nI 88) (q := 92) (gDec iX11_addStem_ok 49 rfl) (by decide) rfl ?_
          refine go_iconst (v := nI 2) (q := 93) (gDec iX11_addStem_ok 50 rfl) (by decide) rfl ?_
          refine go_iload (q := 95) (gDec iX11_addStem_ok 51 rfl) rfl rfl ?_
          refine go_imulN (c := 2 * k) (q := 96) (gDec iX11_addStem_ok 52 rfl) rfl rfl ?_
          refine go_iaddN (c := 88 + (2 * k)) (q := 97) (gDec iX11_addStem_ok 53 rfl) rfl rfl ?_
          refine go_callV (n2 := 0) (q := 100) kX11_69 (ctX11_of (g := i) (w := 88 + (2 * k)) (by omega)) (gDec iX11_addStem_ok 54 rfl) rfl rfl (by decide) rfl rfl rfl (Nat.le_of_ble_eq_true rfl) rfl (gFit_rm (by decide) (by decide)) rfl ?_
          refine go_top (v' := τ.1 33 (i * 4 + k)) ((gMRt hM).sl hi (by omega) rfl) ?_
          refine go_istore (q := 102) (gDec iX11_addStem_ok 55 rfl) (by decide) rfl ?_
          refine go_aload_n (q := 103) (gDec iX11_addStem_ok 56 rfl) rfl rfl rfl ?_
          refine go_iload_n (q := 104) (gDec iX11_addStem_ok 57 rfl) rfl rfl rfl ?_
          refine go_bipush (v := nI 88) (q := 106) (gDec iX11_addStem_ok 58 rfl) (by decide) rfl ?_
          refine go_iconst (v := nI 2) (q := 107) (gDec iX11_addStem_ok 59 rfl) (by decide) rfl ?_
          refine go_iload (q := 109) (gDec iX11_addStem_ok 60 rfl) rfl rfl ?_
          refine go_imulN (c := 2 * k) (q := 110) (gDec iX11_addStem_ok 61 rfl) rfl rfl ?_
          refine go_iaddN (c := 88 + (2 * k)) (q := 111) (gDec iX11_addStem_ok 62 rfl) rfl rfl ?_
          refine go_iconst (v := nI 1) (q := 112) (gDec iX11_addStem_ok 63 rfl) (by decide) rfl ?_
          refine go_iaddN (c := 88 + (2 * k) + 1) (q := 113) (gDec iX11_addStem_ok 64 rfl) rfl rfl ?_
          refine go_callV (n2 := 0) (q := 116) kX11_69 (ctX11_of (g := i) (w := 88 + (2 * k) + 1) (by omega)) (gDec iX11_addStem_ok 65 rfl) rfl rfl (by decide) rfl rfl rfl (Nat.le_of_ble_eq_true rfl) rfl (gFit_rm (by decide) (by decide)) rfl ?_
          refine go_top (v' := τ.1 35 (i * 4 + k)) ((gMRt hM).sr hi (by omega) rfl) ?_
          refine go_istore (q := 118) (gDec iX11_addStem_ok 66 rfl) (by decide) rfl ?_
          refine go_aload_n (q := 119) (gDec iX11_addStem_ok 67 rfl) rfl rfl rfl ?_
          refine go_iload_n (q := 120) (gDec iX11_addStem_ok 68 rfl) rfl rfl rfl ?_
          refine go_iload (q := 122) (gDec iX11_addStem_ok 69 rfl) rfl rfl ?_
          refine go_icmp_gt (t := 135) (q := 125) (gDec iX11_addStem_ok 70 rfl) (by decide) rfl (fun c122 => False.elim (h5 c122)) (fun c122 => ?_)
          refine go_iload_n (q := 126) (gDec iX11_addStem_ok 71 rfl) rfl rfl rfl ?_
          refine go_iload (q := 128) (gDec iX11_addStem_ok 72 rfl) rfl rfl ?_
          refine go_icmp_lt (t := 135) (q := 131) (gDec iX11_addStem_ok 73 rfl) (by decide) rfl (fun c128 => False.elim (h6 c128)) (fun c128 => ?_)
          refine go_iconst (v := 3) (q := 132) (gDec iX11_addStem_ok 74 rfl) (by decide) rfl ?_
          refine go_goto (t := 139) (gDec iX11_addStem_ok 75 rfl) (by decide) ?_
          refine go_puti (q := 142) fX11_54 gft11 (gDec iX11_addStem_ok 78 rfl) rfl (by decide) rfl rfl rfl rfl ?_
          refine go_w (show _ = gPut σ 376 5 (o3 true) from (gPut_tw _ _ _ _ _)) ?_
          refine go_iload (q := 144) (gDec iX11_addStem_ok 79 rfl) rfl rfl ?_
          refine go_iload (q := 146) (gDec iX11_addStem_ok 80 rfl) rfl rfl ?_
          refine go_iload_n (q := 147) (gDec iX11_addStem_ok 81 rfl) rfl rfl rfl ?_
          refine go_icmp_ge (t := 154) (q := 150) (gDec iX11_addStem_ok 82 rfl) (by decide) rfl (fun c147 => ?_) (fun c147 => False.elim (h7 (Int32.not_le.mp c147)))
          refine go_iconst (v := nI 0) (q := 155) (gDec iX11_addStem_ok 85 rfl) (by decide) rfl ?_
          refine go_iaddN (c := q + 0) (q := 156) (gDec iX11_addStem_ok 86 rfl) rfl rfl ?_
          refine go_istore (q := 158) (gDec iX11_addStem_ok 87 rfl) (by decide) rfl ?_
          refine go_iinc (v := nI (k + 1)) (q := 161) (gDec iX11_addStem_ok 88 rfl) rfl (nI_1 _) (by decide) rfl ?_
          refine go_goto (t := 81) (gDec iX11_addStem_ok 89 rfl) (by decide) ?_
          rw [show gStB τ i f t k b = true from if_pos ⟨Int32.not_lt.mp h5, Int32.not_lt.mp h6⟩, show gStQ τ i f k q = (q + 0) from (if_neg h7).trans (Nat.add_zero q).symm] at ih2
          refine go_sub (L' := [(0, .ref (κ.2.1 + 376)), (1, .int (nI i)), (2, .int f), (3, .int t), (4, .int (nI (gNs τ i))), (5, .int (nI (q + 0))), (6, .int (nI (k + 1)))]) ⟨rfl, rfl, rfl, rfl, rfl, rfl, rfl, trivial⟩ ?_
          exact ih2


set_option maxHeartbeats 4000000 in
set_option maxRecDepth 100000 in
theorem okw_addStem {κ : gK} {σ τ : gST} {i p : Nat} {f t : Int32} (h : gAll τ σ) (h1 : gInG τ (nI i)) (hi : i < gNg τ) (h2 : gCo f.toInt t.toInt ∧ f < t) (h4 : gNs τ i < 4) (hb : gLoop (gStB τ i f t) 0 (gNs τ i) false = false) (hq : gLoop (gStQ τ i f) 0 (gNs τ i) 0 = p) (hp : p ≤ gNs τ i) : gCt κ mX11_addStem 9 [.ref (κ.2.1 + 376), .int (nI i), .int f, .int t] σ (rI (nI p)) (gPut (gPut (gPut (gSA (gChg (gPut σ 376 5 0) (nA (τ.1 71 2))).1 377 (va_cpy (σ.1 377) (σ.1 377) (196 + 96 * i + (88 + 2 * p)) (196 + 96 * i + (88 + 2 * p + 2)) (2 * (gNs τ i - p))), (gChg (gPut σ 376 5 0) (nA (τ.1 71 2))).2) 377 (196 + 96 * i + (88 + 2 * p)) f) 377 (196 + 96 * i + (88 + 2 * p + 1)) t) 377 (196 + 96 * i + 87) (nI (gNs τ i + 1))) 0 := by
  have hC := h.ci
  have hM := h.mr
  have hW := hC.dw
  have h24 := hW.ng24
  have hM2 : gMR τ ((gChg (gPut σ 376 5 0) (nA (τ.1 71 2))).1 377) := hM
  refine ct_of (by decide +kernel) rfl (Nat.le_of_ble_eq_true rfl) rfl ?_
  refine go_aload_n (q := 1) (gDec iX11_addStem_ok 0 rfl) rfl rfl rfl ?_
  refine go_aload_n (q := 2) (gDec iX11_addStem_ok 1 rfl) rfl rfl rfl ?_
  refine go_iload_n (q := 3) (gDec iX11_addStem_ok 2 rfl) rfl rfl rfl ?_
  refine go_callV (n2 := 0) (q := 6) kX11_65 (ctX11_isGlyph (τ := τ) hW hM) (gDec iX11_addStem_ok 3 rfl) rfl rfl (by decide) rfl rfl rfl (Nat.le_of_ble_eq_true rfl) rfl (gFit_rm (by decide) (by decide)) rfl ?_
  refine go_top (v' := 1) (gWi_t (by (try rw [i2l_toInt]); exact h1)) ?_
  refine go_if_ne (t := 13) (q := 9) (gDec iX11_addStem_ok 4 rfl) (by decide) rfl (fun c6 => ?_) (fun c6 => False.elim (absurd c6 (by decide)))
  refine go_iload_n (q := 14) (gDec iX11_addStem_ok 7 rfl) rfl rfl rfl ?_
  refine go_i2l (q := 15) (gDec iX11_addStem_ok 8 rfl) rfl ?_
  refine go_callS (n2 := 0) (q := 18) kX11_99 ctX11_isCoordinate (gDec iX11_addStem_ok 9 rfl) rfl rfl (Nat.le_of_ble_eq_true rfl) rfl (gFit_rm (by decide) (by decide)) rfl ?_
  refine go_top (v' := 1) (gWi_t (by rw [i2l_toInt]; exact h2.1.1)) ?_
  refine go_if_eq (t := 34) (q := 21) (gDec iX11_addStem_ok 10 rfl) (by decide) rfl (fun c18 => False.elim (absurd c18 (by decide))) (fun c18 => ?_)
  refine go_iload_n (q := 22) (gDec iX11_addStem_ok 11 rfl) rfl rfl rfl ?_
  refine go_i2l (q := 23) (gDec iX11_addStem_ok 12 rfl) rfl ?_
  refine go_callS (n2 := 0) (q := 26) kX11_99 ctX11_isCoordinate (gDec iX11_addStem_ok 13 rfl) rfl rfl (Nat.le_of_ble_eq_true rfl) rfl (gFit_rm (by decide) (by decide)) rfl ?_
  refine go_top (v' := 1) (gWi_t (by rw [i2l_toInt]; exact h2.1.2)) ?_
  refine go_if_eq (t := 34) (q := 29) (gDec iX11_addStem_ok 14 rfl) (by decide) rfl (fun c26 => False.elim (absurd c26 (by decide))) (fun c26 => ?_)
  refine go_iload_n (q := 30) (gDec iX11_addStem_ok 15 rfl) rfl rfl rfl ?_
  refine go_iload_n (q := 31) (gDec iX11_addStem_ok 16 rfl) rfl rfl rfl ?_
  refine go_icmp_lt (t := 38) (q := 34) (gDec iX11_addStem_ok 17 rfl) (by decide) rfl (fun c31 => ?_) (fun c31 => False.elim (c31 h2.2))
  refine go_iconst (v := nI 0) (q := 39) (gDec iX11_addStem_ok 20 rfl) (by decide) rfl ?_
  refine go_puti (q := 42) fX11_54 gft11 (gDec iX11_addStem_ok 21 rfl) rfl (by decide) rfl rfl rfl rfl ?_
  refine go_aload_n (q := 43) (gDec iX11_addStem_ok 22 rfl) rfl rfl rfl ?_
  refine go_geti (q := 46) fX11_54 (gDec iX11_addStem_ok 23 rfl) rfl (by decide) rfl ?_
  refine go_top (v' := nI 0) rfl ?_
  refine go_if_le (t := 51) (q := 49) (gDec iX11_addStem_ok 24 rfl) (by decide) rfl (fun c46 => ?_) (fun c46 => False.elim (c46 (by decide)))
  refine go_aload_n (q := 52) (gDec iX11_addStem_ok 27 rfl) rfl rfl rfl ?_
  refine go_iload_n (q := 53) (gDec iX11_addStem_ok 28 rfl) rfl rfl rfl ?_
  refine go_bipush (v := nI 87) (q := 55) (gDec iX11_addStem_ok 29 rfl) (by decide) rfl ?_
  refine go_callV (n2 := 0) (q := 58) kX11_69 (ctX11_of (g := i) (w := 87) (by omega)) (gDec iX11_addStem_ok 30 rfl) rfl rfl (by decide) rfl rfl rfl (Nat.le_of_ble_eq_true rfl) rfl (gFit_rm (by decide) (by decide)) rfl ?_
  refine go_top (v' := nI (gNs τ i)) ((gMRt hM).ns hW hi rfl) ?_
  refine go_istore (q := 60) (gDec iX11_addStem_ok 31 rfl) (by decide) rfl ?_
  refine go_iconst (v := nI 0) (q := 61) (gDec iX11_addStem_ok 32 rfl) (by decide) rfl ?_
  refine go_istore (q := 63) (gDec iX11_addStem_ok 33 rfl) (by decide) rfl ?_
  refine go_aload_n (q := 64) (gDec iX11_addStem_ok 34 rfl) rfl rfl rfl ?_
  refine go_iload (q := 66) (gDec iX11_addStem_ok 35 rfl) rfl rfl ?_
  refine go_iconst (v := nI 4) (q := 67) (gDec iX11_addStem_ok 36 rfl) (by decide) rfl ?_
  refine go_icmp_ne (t := 74) (q := 70) (gDec iX11_addStem_ok 37 rfl) (by decide) rfl (fun c67 => ?_) (fun c67 => False.elim (absurd ((nI_eq (a := gNs τ i) (b := 4) (by omega) (by decide)).mp c67) (by omega)))
  refine go_iconst (v := nI 0) (q := 75) (gDec iX11_addStem_ok 40 rfl) (by decide) rfl ?_
  refine go_puti (q := 78) fX11_54 gft11 (gDec iX11_addStem_ok 41 rfl) rfl (by decide) rfl rfl rfl rfl ?_
  refine go_w (show _ = gPut σ 376 5 (o3 false) from (gPut_tw _ _ _ _ _)) ?_
  refine go_iconst (v := nI 0) (q := 79) (gDec iX11_addStem_ok 42 rfl) (by decide) rfl ?_
  refine go_istore (q := 81) (gDec iX11_addStem_ok 43 rfl) (by decide) rfl ?_
  refine go_sub (L' := [(0, .ref (κ.2.1 + 376)), (1, .int (nI i)), (2, .int f), (3, .int t), (4, .int (nI (gNs τ i))), (5, .int (nI 0)), (6, .int (nI 0))]) ⟨rfl, rfl, rfl, rfl, rfl, rfl, rfl, trivial⟩ ?_
  refine lpX11_stm hW hM hi (gNs τ i) 0 false 0 (by omega) ?_
  rw [hb, hq]
  refine go_aload_n (q := 165) (gDec iX11_addStem_ok 90 rfl) rfl rfl rfl ?_
  refine go_geti (q := 168) fX11_54 (gDec iX11_addStem_ok 91 rfl) rfl (by decide) rfl ?_
  refine go_top (v' := 0) (rfl) ?_
  refine go_if_le (t := 173) (q := 171) (gDec iX11_addStem_ok 92 rfl) (by decide) rfl (fun c168 => ?_) (fun c168 => False.elim (c168 (by decide)))
  refine go_aload_n (q := 174) (gDec iX11_addStem_ok 95 rfl) rfl rfl rfl ?_
  refine go_callV (n2 := 0) (q := 177) kX11_89 (ctX11_change (n := (nA (τ.1 71 2))) h.hr.1 h.n8) (gDec iX11_addStem_ok 96 rfl) rfl rfl (by decide) rfl rfl rfl (Nat.le_of_ble_eq_true rfl) rfl (gFit_rm (by decide) (by decide)) rfl ?_
  refine go_w (show _ = gChg (gPut σ 376 5 0) (nA (τ.1 71 2)) from rfl) ?_
  refine go_aload_n (q := 178) (gDec iX11_addStem_ok 97 rfl) rfl rfl rfl ?_
  refine go_getr (r' := 377) (q := 181) fX11_9 (gDec iX11_addStem_ok 98 rfl) rfl (by decide) rfl ?_
  refine go_iload_n (q := 182) (gDec iX11_addStem_ok 99 rfl) rfl rfl rfl ?_
  refine go_bipush (v := nI 88) (q := 184) (gDec iX11_addStem_ok 100 rfl) (by decide) rfl ?_
  refine go_iconst (v := nI 2) (q := 185) (gDec iX11_addStem_ok 101 rfl) (by decide) rfl ?_
  refine go_iload (q := 187) (gDec iX11_addStem_ok 102 rfl) rfl rfl ?_
  refine go_imulN (c := 2 * p) (q := 188) (gDec iX11_addStem_ok 103 rfl) rfl rfl ?_
  refine go_iaddN (c := 88 + (2 * p)) (q := 189) (gDec iX11_addStem_ok 104 rfl) rfl rfl ?_
  refine go_callS (n2 := 0) (q := 192) kX11_61 (ctX11_at (g := i) (w := 88 + (2 * p))) (gDec iX11_addStem_ok 105 rfl) rfl rfl (Nat.le_of_ble_eq_true rfl) rfl (gFit_rm (by decide) (by decide)) rfl ?_
  refine go_aload_n (q := 193) (gDec iX11_addStem_ok 106 rfl) rfl rfl rfl ?_
  refine go_getr (r' := 377) (q := 196) fX11_9 (gDec iX11_addStem_ok 107 rfl) rfl (by decide) rfl ?_
  refine go_iload_n (q := 197) (gDec iX11_addStem_ok 108 rfl) rfl rfl rfl ?_
  refine go_bipush (v := nI 88) (q := 199) (gDec iX11_addStem_ok 109 rfl) (by decide) rfl ?_
  refine go_iconst (v := nI 2) (q := 200) (gDec iX11_addStem_ok 110 rfl) (by decide) rfl ?_
  refine go_iload (q := 202) (gDec iX11_addStem_ok 111 rfl) rfl rfl ?_
  refine go_imulN (c := 2 * p) (q := 203) (gDec iX11_addStem_ok 112 rfl) rfl rfl ?_
  refine go_iaddN (c := 88 + (2 * p)) (q := 204) (gDec iX11_addStem_ok 113 rfl) rfl rfl ?_
  refine go_iconst (v := nI 2) (q := 205) (gDec iX11_addStem_ok 114 rfl) (by decide) rfl ?_
  refine go_iaddN (c := 88 + (2 * p) + 2) (q := 206) (gDec iX11_addStem_ok 115 rfl) rfl rfl ?_
  refine go_callS (n2 := 0) (q := 209) kX11_61 (ctX11_at (g := i) (w := 88 + (2 * p) + 2)) (gDec iX11_addStem_ok 116 rfl) rfl rfl (Nat.le_of_ble_eq_true rfl) rfl (gFit_rm (by decide) (by decide)) rfl ?_
  refine go_iconst (v := nI 2) (q := 210) (gDec iX11_addStem_ok 117 rfl) (by decide) rfl ?_
  refine go_iload (q := 212) (gDec iX11_addStem_ok 118 rfl) rfl rfl ?_
  refine go_iload (q := 214) (gDec iX11_addStem_ok 119 rfl) rfl rfl ?_
  refine go_isub (q := 215) (gDec iX11_addStem_ok 120 rfl) rfl ?_
  refine go_top (v' := nI (gNs τ i - p)) (nI_subN hp (by omega)) ?_
  refine go_imulN (c := 2 * (gNs τ i - p)) (q := 216) (gDec iX11_addStem_ok 121 rfl) rfl rfl ?_
  refine go_copy (q := 219) kX11_79 (gDec iX11_addStem_ok 122 rfl) rfl rfl (by decide) (by decide) (nI_pos (by omega)) (nI_pos (by omega)) (nI_pos (by omega)) (by rw [nI_clamp (by omega), nI_clamp (by omega)]; omega) (by rw [nI_clamp (by omega), nI_clamp (by omega)]; omega) (Nat.le_of_ble_eq_true rfl) (gFit_rm (by decide) (by decide)) rfl ?_
  refine go_w (show _ = (gSA (gChg (gPut σ 376 5 0) (nA (τ.1 71 2))).1 377 (va_cpy (σ.1 377) (σ.1 377) (196 + 96 * i + (88 + 2 * p)) (196 + 96 * i + (88 + 2 * p + 2)) (2 * (gNs τ i - p))), (gChg (gPut σ 376 5 0) (nA (τ.1 71 2))).2) from (by rw [nI_clamp (by omega), nI_clamp (by omega), nI_clamp (by omega)]; rfl)) ?_
  refine go_aload_n (q := 220) (gDec iX11_addStem_ok 123 rfl) rfl rfl rfl ?_
  refine go_getr (r' := 377) (q := 223) fX11_9 (gDec iX11_addStem_ok 124 rfl) rfl (by decide) rfl ?_
  refine go_iload_n (q := 224) (gDec iX11_addStem_ok 125 rfl) rfl rfl rfl ?_
  refine go_bipush (v := nI 88) (q := 226) (gDec iX11_addStem_ok 126 rfl) (by decide) rfl ?_
  refine go_iconst (v := nI 2) (q := 227) (gDec iX11_addStem_ok 127 rfl) (by decide) rfl ?_
  refine go_iload (q := 229) (gDec iX11_addStem_ok 128 rfl) rfl rfl ?_
  refine go_imulN (c := 2 * p) (q := 230) (gDec iX11_addStem_ok 129 rfl) rfl rfl ?_
  refine go_iaddN (c := 88 + (2 * p)) (q := 231) (gDec iX11_addStem_ok 130 rfl) rfl rfl ?_
  refine go_callS (n2 := 0) (q := 234) kX11_61 (ctX11_at (g := i) (w := 88 + (2 * p))) (gDec iX11_addStem_ok 131 rfl) rfl rfl (Nat.le_of_ble_eq_true rfl) rfl (gFit_rm (by decide) (by decide)) rfl ?_
  refine go_iload_n (q := 235) (gDec iX11_addStem_ok 132 rfl) rfl rfl rfl ?_
  refine go_iastN (q := 236) (gDec iX11_addStem_ok 133 rfl) rfl (by decide) (by omega) (by decide) rfl ?_
  refine go_aload_n (q := 237) (gDec iX11_addStem_ok 134 rfl) rfl rfl rfl ?_
  refine go_getr (r' := 377) (q := 240) fX11_9 (gDec iX11_addStem_ok 135 rfl) rfl (by decide) rfl ?_
  refine go_iload_n (q := 241) (gDec iX11_addStem_ok 136 rfl) rfl rfl rfl ?_
  refine go_bipush (v := nI 88) (q := 243) (gDec iX11_addStem_ok 137 rfl) (by decide) rfl ?_
  refine go_iconst (v := nI 2) (q := 244) (gDec iX11_addStem_ok 138 rfl) (by decide) rfl ?_
  refine go_iload (q := 246) (gDec iX11_addStem_ok 139 rfl) rfl rfl ?_
  refine go_imulN (c := 2 * p) (q := 247) (gDec iX11_addStem_ok 140 rfl) rfl rfl ?_
  refine go_iaddN (c := 88 + (2 * p)) (q := 248) (gDec iX11_addStem_ok 141 rfl) rfl rfl ?_
  refine go_iconst (v := nI 1) (q := 249) (gDec iX11_addStem_ok 142 rfl) (by decide) rfl ?_
  refine go_iaddN (c := 88 + (2 * p) + 1) (q := 250) (gDec iX11_addStem_ok 143 rfl) rfl rfl ?_
  refine go_callS (n2 := 0) (q := 253) kX11_61 (ctX11_at (g := i) (w := 88 + (2 * p) + 1)) (gDec iX11_addStem_ok 144 rfl) rfl rfl (Nat.le_of_ble_eq_true rfl) rfl (gFit_rm (by decide) (by decide)) rfl ?_
  refine go_iload_n (q := 254) (gDec iX11_addStem_ok 145 rfl) rfl rfl rfl ?_
  refine go_iastN (q := 255) (gDec iX11_addStem_ok 146 rfl) rfl (by decide) (by omega) (by decide) rfl ?_
  refine go_aload_n (q := 256) (gDec iX11_addStem_ok 147 rfl) rfl rfl rfl ?_
  refine go_getr (r' := 377) (q := 259) fX11_9 (gDec iX11_addStem_ok 148 rfl) rfl (by decide) rfl ?_
  refine go_iload_n (q := 260) (gDec iX11_addStem_ok 149 rfl) rfl rfl rfl ?_
  refine go_bipush (v := nI 87) (q := 262) (gDec iX11_addStem_ok 150 rfl) (by decide) rfl ?_
  refine go_callS (n2 := 0) (q := 265) kX11_61 (ctX11_at (g := i) (w := 87)) (gDec iX11_addStem_ok 151 rfl) rfl rfl (Nat.le_of_ble_eq_true rfl) rfl (gFit_rm (by decide) (by decide)) rfl ?_
  refine go_dup2 (q := 266) (gDec iX11_addStem_ok 152 rfl) rfl rfl rfl ?_
  refine go_ialdN (q := 267) (gDec iX11_addStem_ok 153 rfl) rfl (by decide) (by omega) (by decide) rfl ?_
  refine go_top (v' := nI (gNs τ i)) (by rw [gPut_at, if_neg (by omega), gPut_at, if_neg (by omega)]; exact (show va_cpy (σ.1 377) (σ.1 377) (196 + 96 * i + (88 + 2 * p)) (196 + 96 * i + (88 + 2 * p + 2)) (2 * (gNs τ i - p)) (196 + 96 * i + 87) = _ from (by unfold va_cpy; rw [if_neg (by omega)]; exact hM.ns hW hi rfl))) ?_
  refine go_iconst (v := nI 1) (q := 268) (gDec iX11_addStem_ok 154 rfl) (by decide) rfl ?_
  refine go_iaddN (c := (gNs τ i) + 1) (q := 269) (gDec iX11_addStem_ok 155 rfl) rfl rfl ?_
  refine go_iastN (q := 270) (gDec iX11_addStem_ok 156 rfl) rfl (by decide) (by omega) (by decide) rfl ?_
  refine go_iload (q := 272) (gDec iX11_addStem_ok 157 rfl) rfl rfl ?_
  exact go_ireturn (gDec iX11_addStem_ok 158 rfl) rfl rfl rfl rfl (by decide)

set_option maxHeartbeats 4000000 in
set_option maxRecDepth 100000 in
theorem ok_addStem {κ : gK} {σ τ : gST} {g f t : Int32} (h : gAll τ σ) : gOK κ mX11_addStem [.ref (κ.2.1 + 376), .int g, .int f, .int t] σ (rI (aI (fAddStem τ g f t).1)) kOAS (fAddStem τ g f t) := by
  have hC := h.ci
  have hM := h.mr
  have hW := hC.dw
  have h24 := hW.ng24
  by_cases h1 : gInG τ g
  · obtain ⟨i, hi, rfl⟩ := gInG.ex h1
    have h4 := hW.ns4 (g := i) (by omega)
    have e33 : (gRem τ).1 33 = τ.1 33 := (gRem_D τ) 33 (by decide)
    have e35 : (gRem τ).1 35 = τ.1 35 := (gRem_D τ) 35 (by decide)
    by_cases h2 : gCo f.toInt t.toInt ∧ f < t
    · by_cases h4e : gNs τ i = 4
      · rw [show fAddStem τ (nI i) f t = (xISE, τ) from (if_pos h1).trans ((if_pos h2).trans (if_pos (Or.inl (by rw [nA_nI (n := i) (by omega)]; omega))))]
        have hb : gLoop (gStB τ i f t) 0 (gNs τ i) true = true := by
          cases hx : gLoop (gStB τ i f t) 0 (gNs τ i) true with
          | true => rfl
          | false => exact absurd ((gStB_f _ _ _).mp hx).1 (by decide)
        refine gOK.rd h rfl ?_
        refine ct_of (by decide +kernel) rfl (Nat.le_of_ble_eq_true rfl) rfl ?_
        refine go_aload_n (q := 1) (gDec iX11_addStem_ok 0 rfl) rfl rfl rfl ?_
        refine go_aload_n (q := 2) (gDec iX11_addStem_ok 1 rfl) rfl rfl rfl ?_
        refine go_iload_n (q := 3) (gDec iX11_addStem_ok 2 rfl) rfl rfl rfl ?_
        refine go_callV (n2 := 0) (q := 6) kX11_65 (ctX11_isGlyph (τ := τ) hW hM) (gDec iX11_addStem_ok 3 rfl) rfl rfl (by decide) rfl rfl rfl (Nat.le_of_ble_eq_true rfl) rfl (gFit_rm (by decide) (by decide)) rfl ?_
        refine go_top (v' := 1) (gWi_t (by (try rw [i2l_toInt]); exact h1)) ?_
        refine go_if_ne (t := 13) (q := 9) (gDec iX11_addStem_ok 4 rfl) (by decide) rfl (fun c6 => ?_) (fun c6 => False.elim (absurd c6 (by decide)))
        refine go_iload_n (q := 14) (gDec iX11_addStem_ok 7 rfl) rfl rfl rfl ?_
        refine go_i2l (q := 15) (gDec iX11_addStem_ok 8 rfl) rfl ?_
        refine go_callS (n2 := 0) (q := 18) kX11_99 ctX11_isCoordinate (gDec iX11_addStem_ok 9 rfl) rfl rfl (Nat.le_of_ble_eq_true rfl) rfl (gFit_rm (by decide) (by decide)) rfl ?_
        refine go_top (v' := 1) (gWi_t (by rw [i2l_toInt]; exact h2.1.1)) ?_
        refine go_if_eq (t := 34) (q := 21) (gDec iX11_addStem_ok 10 rfl) (by decide) rfl (fun c18 => False.elim (absurd c18 (by decide))) (fun c18 => ?_)
        refine go_iload_n (q := 22) (gDec iX11_addStem_ok 11 rfl) rfl rfl rfl ?_
        refine go_i2l (q := 23) (gDec iX11_addStem_ok 12 rfl) rfl ?_
        refine go_callS (n2 := 0) (q := 26) kX11_99 ctX11_isCoordinate (gDec iX11_addStem_ok 13 rfl) rfl rfl (Nat.le_of_ble_eq_true rfl) rfl (gFit_rm (by decide) (by decide)) rfl ?_
        refine go_top (v' := 1) (gWi_t (by rw [i2l_toInt]; exact h2.1.2)) ?_
        refine go_if_eq (t := 34) (q := 29) (gDec iX11_addStem_ok 14 rfl) (by decide) rfl (fun c26 => False.elim (absurd c26 (by decide))) (fun c26 => ?_)
        refine go_iload_n (q := 30) (gDec iX11_addStem_ok 15 rfl) rfl rfl rfl ?_
        refine go_iload_n (q := 31) (gDec iX11_addStem_ok 16 rfl) rfl rfl rfl ?_
        refine go_icmp_lt (t := 38) (q := 34) (gDec iX11_addStem_ok 17 rfl) (by decide) rfl (fun c31 => ?_) (fun c31 => False.elim (c31 h2.2))
        refine go_iconst (v := nI 0) (q := 39) (gDec iX11_addStem_ok 20 rfl) (by decide) rfl ?_
        refine go_puti (q := 42) fX11_54 gft11 (gDec iX11_addStem_ok 21 rfl) rfl (by decide) rfl rfl rfl rfl ?_
        refine go_aload_n (q := 43) (gDec iX11_addStem_ok 22 rfl) rfl rfl rfl ?_
        refine go_geti (q := 46) fX11_54 (gDec iX11_addStem_ok 23 rfl) rfl (by decide) rfl ?_
        refine go_top (v' := nI 0) rfl ?_
        refine go_if_le (t := 51) (q := 49) (gDec iX11_addStem_ok 24 rfl) (by decide) rfl (fun c46 => ?_) (fun c46 => False.elim (c46 (by decide)))
        refine go_aload_n (q := 52) (gDec iX11_addStem_ok 27 rfl) rfl rfl rfl ?_
        refine go_iload_n (q := 53) (gDec iX11_addStem_ok 28 rfl) rfl rfl rfl ?_
        refine go_bipush (v := nI 87) (q := 55) (gDec iX11_addStem_ok 29 rfl) (by decide) rfl ?_
        refine go_callV (n2 := 0) (q := 58) kX11_69 (ctX11_of (g := i) (w := 87) (by omega)) (gDec iX11_addStem_ok 30 rfl) rfl rfl (by decide) rfl rfl rfl (Nat.le_of_ble_eq_true rfl) rfl (gFit_rm (by decide) (by decide)) rfl ?_
        refine go_top (v' := nI (gNs τ i)) ((gMRt hM).ns hW hi rfl) ?_
        refine go_istore (q := 60) (gDec iX11_addStem_ok 31 rfl) (by decide) rfl ?_
        refine go_iconst (v := nI 0) (q := 61) (gDec iX11_addStem_ok 32 rfl) (by decide) rfl ?_
        refine go_istore (q := 63) (gDec iX11_addStem_ok 33 rfl) (by decide) rfl ?_
        refine go_aload_n (q := 64) (gDec iX11_addStem_ok 34 rfl) rfl rfl rfl ?_
        refine go_iload (q := 66) (gDec iX11_addStem_ok 35 rfl) rfl rfl ?_
        refine go_iconst (v := nI 4) (q := 67) (gDec iX11_addStem_ok 36 rfl) (by decide) rfl ?_
        refine go_icmp_ne (t := 74) (q := 70) (gDec iX11_addStem_ok 37 rfl) (by decide) rfl (fun c67 => False.elim (c67 (by rw [h4e]))) (fun c67 => ?_)
        refine go_iconst (v := nI 3) (q := 71) (gDec iX11_addStem_ok 38 rfl) (by decide) rfl ?_
        refine go_goto (t := 75) (gDec iX11_addStem_ok 39 rfl) (by decide) ?_
        refine go_puti (q := 78) fX11_54 gft11 (gDec iX11_addStem_ok 41 rfl) rfl (by decide) rfl rfl rfl rfl ?_
        refine go_w (show _ = gPut σ 376 5 (o3 true) from (gPut_tw _ _ _ _ _)) ?_
        refine go_iconst (v := nI 0) (q := 79) (gDec iX11_addStem_ok 42 rfl) (by decide) rfl ?_
        refine go_istore (q := 81) (gDec iX11_addStem_ok 43 rfl) (by decide) rfl ?_
        refine go_sub (L' := [(0, .ref (κ.2.1 + 376)), (1, .int (nI i)), (2, .int f), (3, .int t), (4, .int (nI (gNs τ i))), (5, .int (nI 0)), (6, .int (nI 0))]) ⟨rfl, rfl, rfl, rfl, rfl, rfl, rfl, trivial⟩ ?_
        refine lpX11_stm hW hM hi (gNs τ i) 0 true 0 (by omega) ?_
        rw [hb]
        refine go_aload_n (q := 165) (gDec iX11_addStem_ok 90 rfl) rfl rfl rfl ?_
        refine go_geti (q := 168) fX11_54 (gDec iX11_addStem_ok 91 rfl) rfl (by decide) rfl ?_
        refine go_top (v' := 3) (rfl) ?_
        refine go_if_le (t := 173) (q := 171) (gDec iX11_addStem_ok 92 rfl) (by decide) rfl (fun c168 => False.elim (absurd c168 (by decide))) (fun c168 => ?_)
        refine go_iconst (v := nI 0) (q := 172) (gDec iX11_addStem_ok 93 rfl) (by decide) rfl ?_
        exact go_ireturn (gDec iX11_addStem_ok 94 rfl) rfl rfl rfl (congrArg (gPut σ 376 5) xc_OAS_S) (by decide)
      · cases hb : gLoop (gStB τ i f t) 0 (gNs τ i) false with
        | true =>
          rw [show fAddStem τ (nI i) f t = (xISE, τ) from (if_pos h1).trans ((if_pos h2).trans (if_pos (Or.inr (by
            rw [nA_nI (n := i) (by omega), gTk_0]
            intro h9
            rw [(gStB_f (gNs τ i) 0 false).mpr ⟨rfl, h9⟩] at hb
            cases hb))))]
          refine gOK.rd h rfl ?_
          refine ct_of (by decide +kernel) rfl (Nat.le_of_ble_eq_true rfl) rfl ?_
          refine go_aload_n (q := 1) (gDec iX11_addStem_ok 0 rfl) rfl rfl rfl ?_
          refine go_aload_n (q := 2) (gDec iX11_addStem_ok 1 rfl) rfl rfl rfl ?_
          refine go_iload_n (q := 3) (gDec iX11_addStem_ok 2 rfl) rfl rfl rfl ?_
          refine go_callV (n2 := 0) (q := 6) kX11_65 (ctX11_isGlyph (τ := τ) hW hM) (gDec iX11_addStem_ok 3 rfl) rfl rfl (by decide) rfl rfl rfl (Nat.le_of_ble_eq_true rfl) rfl (gFit_rm (by decide) (by decide)) rfl ?_
          refine go_top (v' := 1) (gWi_t (by (try rw [i2l_toInt]); exact h1)) ?_
          refine go_if_ne (t := 13) (q := 9) (gDec iX11_addStem_ok 4 rfl) (by decide) rfl (fun c6 => ?_) (fun c6 => False.elim (absurd c6 (by decide)))
          refine go_iload_n (q := 14) (gDec iX11_addStem_ok 7 rfl) rfl rfl rfl ?_
          refine go_i2l (q := 15) (gDec iX11_addStem_ok 8 rfl) rfl ?_
          refine go_callS (n2 := 0) (q := 18) kX11_99 ctX11_isCoordinate (gDec iX11_addStem_ok 9 rfl) rfl rfl (Nat.le_of_ble_eq_true rfl) rfl (gFit_rm (by decide) (by decide)) rfl ?_
          refine go_top (v' := 1) (gWi_t (by rw [i2l_toInt]; exact h2.1.1)) ?_
          refine go_if_eq (t := 34) (q := 21) (gDec iX11_addStem_ok 10 rfl) (by decide) rfl (fun c18 => False.elim (absurd c18 (by decide))) (fun c18 => ?_)
          refine go_iload_n (q := 22) (gDec iX11_addStem_ok 11 rfl) rfl rfl rfl ?_
          refine go_i2l (q := 23) (gDec iX11_addStem_ok 12 rfl) rfl ?_
          refine go_callS (n2 := 0) (q := 26) kX11_99 ctX11_isCoordinate (gDec iX11_addStem_ok 13 rfl) rfl rfl (Nat.le_of_ble_eq_true rfl) rfl (gFit_rm (by decide) (by decide)) rfl ?_
          refine go_top (v' := 1) (gWi_t (by rw [i2l_toInt]; exact h2.1.2)) ?_
          refine go_if_eq (t := 34) (q := 29) (gDec iX11_addStem_ok 14 rfl) (by decide) rfl (fun c26 => False.elim (absurd c26 (by decide))) (fun c26 => ?_)
          refine go_iload_n (q := 30) (gDec iX11_addStem_ok 15 rfl) rfl rfl rfl ?_
          refine go_iload_n (q := 31) (gDec iX11_addStem_ok 16 rfl) rfl rfl rfl ?_
          refine go_icmp_lt (t := 38) (q := 34) (gDec iX11_addStem_ok 17 rfl) (by decide) rfl (fun c31 => ?_) (fun c31 => False.elim (c31 h2.2))
          refine go_iconst (v := nI 0) (q := 39) (gDec iX11_addStem_ok 20 rfl) (by decide) rfl ?_
          refine go_puti (q := 42) fX11_54 gft11 (gDec iX11_addStem_ok 21 rfl) rfl (by decide) rfl rfl rfl rfl ?_
          refine go_aload_n (q := 43) (gDec iX11_addStem_ok 22 rfl) rfl rfl rfl ?_
          refine go_geti (q := 46) fX11_54 (gDec iX11_addStem_ok 23 rfl) rfl (by decide) rfl ?_
          refine go_top (v' := nI 0) rfl ?_
          refine go_if_le (t := 51) (q := 49) (gDec iX11_addStem_ok 24 rfl) (by decide) rfl (fun c46 => ?_) (fun c46 => False.elim (c46 (by decide)))
          refine go_aload_n (q := 52) (gDec iX11_addStem_ok 27 rfl) rfl rfl rfl ?_
          refine go_iload_n (q := 53) (gDec iX11_addStem_ok 28 rfl) rfl rfl rfl ?_
          refine go_bipush (v := nI 87) (q := 55) (gDec iX11_addStem_ok 29 rfl) (by decide) rfl ?_
          refine go_callV (n2 := 0) (q := 58) kX11_69 (ctX11_of (g := i) (w := 87) (by omega)) (gDec iX11_addStem_ok 30 rfl) rfl rfl (by decide) rfl rfl rfl (Nat.le_of_ble_eq_true rfl) rfl (gFit_rm (by decide) (by decide)) rfl ?_
          refine go_top (v' := nI (gNs τ i)) ((gMRt hM).ns hW hi rfl) ?_
          refine go_istore (q := 60) (gDec iX11_addStem_ok 31 rfl) (by decide) rfl ?_
          refine go_iconst (v := nI 0) (q := 61) (gDec iX11_addStem_ok 32 rfl) (by decide) rfl ?_
          refine go_istore (q := 63) (gDec iX11_addStem_ok 33 rfl) (by decide) rfl ?_
          refine go_aload_n (q := 64) (gDec iX11_addStem_ok 34 rfl) rfl rfl rfl ?_
          refine go_iload (q := 66) (gDec iX11_addStem_ok 35 rfl) rfl rfl ?_
          refine go_iconst (v := nI 4) (q := 67) (gDec iX11_addStem_ok 36 rfl) (by decide) rfl ?_
          refine go_icmp_ne (t := 74) (q := 70) (gDec iX11_addStem_ok 37 rfl) (by decide) rfl (fun c67 => ?_) (fun c67 => False.elim (absurd ((nI_eq (a := gNs τ i) (b := 4) (by omega) (by decide)).mp c67) h4e))
          refine go_iconst (v := nI 0) (q := 75) (gDec iX11_addStem_ok 40 rfl) (by decide) rfl ?_
          refine go_puti (q := 78) fX11_54 gft11 (gDec iX11_addStem_ok 41 rfl) rfl (by decide) rfl rfl rfl rfl ?_
          refine go_w (show _ = gPut σ 376 5 (o3 false) from (gPut_tw _ _ _ _ _)) ?_
          refine go_iconst (v := nI 0) (q := 79) (gDec iX11_addStem_ok 42 rfl) (by decide) rfl ?_
          refine go_istore (q := 81) (gDec iX11_addStem_ok 43 rfl) (by decide) rfl ?_
          refine go_sub (L' := [(0, .ref (κ.2.1 + 376)), (1, .int (nI i)), (2, .int f), (3, .int t), (4, .int (nI (gNs τ i))), (5, .int (nI 0)), (6, .int (nI 0))]) ⟨rfl, rfl, rfl, rfl, rfl, rfl, rfl, trivial⟩ ?_
          refine lpX11_stm hW hM hi (gNs τ i) 0 false 0 (by omega) ?_
          rw [hb]
          refine go_aload_n (q := 165) (gDec iX11_addStem_ok 90 rfl) rfl rfl rfl ?_
          refine go_geti (q := 168) fX11_54 (gDec iX11_addStem_ok 91 rfl) rfl (by decide) rfl ?_
          refine go_top (v' := 3) (rfl) ?_
          refine go_if_le (t := 173) (q := 171) (gDec iX11_addStem_ok 92 rfl) (by decide) rfl (fun c168 => False.elim (absurd c168 (by decide))) (fun c168 => ?_)
          refine go_iconst (v := nI 0) (q := 172) (gDec iX11_addStem_ok 93 rfl) (by decide) rfl ?_
          exact go_ireturn (gDec iX11_addStem_ok 94 rfl) rfl rfl rfl (congrArg (gPut σ 376 5) xc_OAS_S) (by decide)
        | false =>
          obtain ⟨-, hno⟩ := (gStB_f _ _ _).mp hb
          have hno2 : ∀ k, k < gNs τ i → ¬ gTch τ i f t k := fun k hk => hno k (Nat.zero_le _) (by omega)
          have hq := gStp hC hi h2.2 hno2
          obtain ⟨p1, -, -⟩ := gIp_spec (l := τ.1 33) (b := i * 4) (f := f) (gNs τ i)
          rw [show fAddStem τ (nI i) f t = (rI (nI (gIp (τ.1 33) (i * 4) f (gNs τ i))), gInsW (gRem τ) i (gNs τ i) f t) from (if_pos h1).trans ((if_pos h2).trans ((if_neg (by
            rw [nA_nI (n := i) (by omega), gTk_0]
            exact fun h9 => h9.elim (by omega) (fun h8 => h8 hno))).trans (by rw [nA_nI (n := i) (by omega), e33])))]
          have m := mt_addStem (i := i) (N := gNs τ i) (f := f) (t := t) (p := gIp (τ.1 33) (i * 4) f (gNs τ i)) (gRem_ci hC) (gRem_mr hC hM) (by rw [gRem_ng]; exact hi) ((gRem_1 τ).ns (by omega)).symm (by omega) (by rw [e33]) h2.1.1 h2.1.2 h2.2 (fun k hk => by unfold gTch; rw [e33, e35]; exact hno2 k hk)
          have ho : ∀ k, k ≠ 31 → k ≠ 33 → k ≠ 35 → (gInsW (gRem τ) i (gNs τ i) f t).1 k = (gRem τ).1 k := fun k q1 q2 q3 => by
            unfold gInsW gS2f
            rw [gPut_ne _ _ _ q1, gPut_ne _ _ _ q3, gPut_ne _ _ _ q2]
            exact (gSA_ne _ _ q3).trans (gSA_ne _ _ q2)
          refine gOK.ch h (okw_addStem h h1 hi h2 (by omega) hb hq p1) m (fun k hk => ho k (by omega) (by omega) (by omega)) ?_ (fun k hk => ?_) rfl
          · have e : gNg (gInsW (gRem τ) i (gNs τ i) f t) = gNg (gRem τ) := by unfold gNg; rw [ho 2 (by decide) (by decide) (by decide)]
            rw [e, gRem_ng]
            exact Nat.le_refl _
          · rw [gPut_ne _ _ _ hk, gPut_ne _ _ _ hk, gPut_ne _ _ _ hk]
            exact gSA_ne _ _ hk
    · rw [show fAddStem τ (nI i) f t = (xIAE, τ) from (if_pos h1).trans (if_neg h2)]
      refine gOK.rd h rfl ?_
      refine ct_of (by decide +kernel) rfl (Nat.le_of_ble_eq_true rfl) rfl ?_
      refine go_aload_n (q := 1) (gDec iX11_addStem_ok 0 rfl) rfl rfl rfl ?_
      refine go_aload_n (q := 2) (gDec iX11_addStem_ok 1 rfl) rfl rfl rfl ?_
      refine go_iload_n (q := 3) (gDec iX11_addStem_ok 2 rfl) rfl rfl rfl ?_
      refine go_callV (n2 := 0) (q := 6) kX11_65 (ctX11_isGlyph (τ := τ) hW hM) (gDec iX11_addStem_ok 3 rfl) rfl rfl (by decide) rfl rfl rfl (Nat.le_of_ble_eq_true rfl) rfl (gFit_rm (by decide) (by decide)) rfl ?_
      refine go_top (v' := 1) (gWi_t (by (try rw [i2l_toInt]); exact h1)) ?_
      refine go_if_ne (t := 13) (q := 9) (gDec iX11_addStem_ok 4 rfl) (by decide) rfl (fun c6 => ?_) (fun c6 => False.elim (absurd c6 (by decide)))
      refine go_iload_n (q := 14) (gDec iX11_addStem_ok 7 rfl) rfl rfl rfl ?_
      refine go_i2l (q := 15) (gDec iX11_addStem_ok 8 rfl) rfl ?_
      refine go_callS (n2 := 0) (q := 18) kX11_99 ctX11_isCoordinate (gDec iX11_addStem_ok 9 rfl) rfl rfl (Nat.le_of_ble_eq_true rfl) rfl (gFit_rm (by decide) (by decide)) rfl ?_
      refine go_if_eq (t := 34) (q := 21) (gDec iX11_addStem_ok 10 rfl) (by decide) rfl (fun c18 => ?_) (fun c18 => ?_)
      · refine go_iconst (v := nI 2) (q := 35) (gDec iX11_addStem_ok 18 rfl) (by decide) rfl ?_
        refine go_goto (t := 39) (gDec iX11_addStem_ok 19 rfl) (by decide) ?_
        refine go_puti (q := 42) fX11_54 gft11 (gDec iX11_addStem_ok 21 rfl) rfl (by decide) rfl rfl rfl rfl ?_
        refine go_aload_n (q := 43) (gDec iX11_addStem_ok 22 rfl) rfl rfl rfl ?_
        refine go_geti (q := 46) fX11_54 (gDec iX11_addStem_ok 23 rfl) rfl (by decide) rfl ?_
        refine go_top (v' := nI 2) rfl ?_
        refine go_if_le (t := 51) (q := 49) (gDec iX11_addStem_ok 24 rfl) (by decide) rfl (fun c46 => False.elim (absurd c46 (by decide))) (fun c46 => ?_)
        refine go_iconst (v := nI 0) (q := 50) (gDec iX11_addStem_ok 25 rfl) (by decide) rfl ?_
        exact go_ireturn (gDec iX11_addStem_ok 26 rfl) rfl rfl rfl (congrArg (gPut σ 376 5) xc_OAS_A) (by decide)
      · refine go_iload_n (q := 22) (gDec iX11_addStem_ok 11 rfl) rfl rfl rfl ?_
        refine go_i2l (q := 23) (gDec iX11_addStem_ok 12 rfl) rfl ?_
        refine go_callS (n2 := 0) (q := 26) kX11_99 ctX11_isCoordinate (gDec iX11_addStem_ok 13 rfl) rfl rfl (Nat.le_of_ble_eq_true rfl) rfl (gFit_rm (by decide) (by decide)) rfl ?_
        refine go_if_eq (t := 34) (q := 29) (gDec iX11_addStem_ok 14 rfl) (by decide) rfl (fun c26 => ?_) (fun c26 => ?_)
        · refine go_iconst (v := nI 2) (q := 35) (gDec iX11_addStem_ok 18 rfl) (by decide) rfl ?_
          refine go_goto (t := 39) (gDec iX11_addStem_ok 19 rfl) (by decide) ?_
          refine go_puti (q := 42) fX11_54 gft11 (gDec iX11_addStem_ok 21 rfl) rfl (by decide) rfl rfl rfl rfl ?_
          refine go_aload_n (q := 43) (gDec iX11_addStem_ok 22 rfl) rfl rfl rfl ?_
          refine go_geti (q := 46) fX11_54 (gDec iX11_addStem_ok 23 rfl) rfl (by decide) rfl ?_
          refine go_top (v' := nI 2) rfl ?_
          refine go_if_le (t := 51) (q := 49) (gDec iX11_addStem_ok 24 rfl) (by decide) rfl (fun c46 => False.elim (absurd c46 (by decide))) (fun c46 => ?_)
          refine go_iconst (v := nI 0) (q := 50) (gDec iX11_addStem_ok 25 rfl) (by decide) rfl ?_
          exact go_ireturn (gDec iX11_addStem_ok 26 rfl) rfl rfl rfl (congrArg (gPut σ 376 5) xc_OAS_A) (by decide)
        · refine go_iload_n (q := 30) (gDec iX11_addStem_ok 15 rfl) rfl rfl rfl ?_
          refine go_iload_n (q := 31) (gDec iX11_addStem_ok 16 rfl) rfl rfl rfl ?_
          refine go_icmp_lt (t := 38) (q := 34) (gDec iX11_addStem_ok 17 rfl) (by decide) rfl (fun c31 => ?_) (fun c31 => ?_)
          · have k1 := gWi_1 c18
            have k2 := gWi_1 c26
            rw [i2l_toInt] at k1 k2
            exact (h2 ⟨⟨k1, k2⟩, c31⟩).elim
          · refine go_iconst (v := nI 2) (q := 35) (gDec iX11_addStem_ok 18 rfl) (by decide) rfl ?_
            refine go_goto (t := 39) (gDec iX11_addStem_ok 19 rfl) (by decide) ?_
            refine go_puti (q := 42) fX11_54 gft11 (gDec iX11_addStem_ok 21 rfl) rfl (by decide) rfl rfl rfl rfl ?_
            refine go_aload_n (q := 43) (gDec iX11_addStem_ok 22 rfl) rfl rfl rfl ?_
            refine go_geti (q := 46) fX11_54 (gDec iX11_addStem_ok 23 rfl) rfl (by decide) rfl ?_
            refine go_top (v' := nI 2) rfl ?_
            refine go_if_le (t := 51) (q := 49) (gDec iX11_addStem_ok 24 rfl) (by decide) rfl (fun c46 => False.elim (absurd c46 (by decide))) (fun c46 => ?_)
            refine go_iconst (v := nI 0) (q := 50) (gDec iX11_addStem_ok 25 rfl) (by decide) rfl ?_
            exact go_ireturn (gDec iX11_addStem_ok 26 rfl) rfl rfl rfl (congrArg (gPut σ 376 5) xc_OAS_A) (by decide)
  · rw [show fAddStem τ g f t = (xIOB, τ) from if_neg h1]
    refine gOK.rd h rfl ?_
    refine ct_of (by decide +kernel) rfl (Nat.le_of_ble_eq_true rfl) rfl ?_
    refine go_aload_n (q := 1) (gDec iX11_addStem_ok 0 rfl) rfl rfl rfl ?_
    refine go_aload_n (q := 2) (gDec iX11_addStem_ok 1 rfl) rfl rfl rfl ?_
    refine go_iload_n (q := 3) (gDec iX11_addStem_ok 2 rfl) rfl rfl rfl ?_
    refine go_callV (n2 := 0) (q := 6) kX11_65 (ctX11_isGlyph (τ := τ) hW hM) (gDec iX11_addStem_ok 3 rfl) rfl rfl (by decide) rfl rfl rfl (Nat.le_of_ble_eq_true rfl) rfl (gFit_rm (by decide) (by decide)) rfl ?_
    refine go_top (v' := 0) (gWi_f (by (try rw [i2l_toInt]); exact h1)) ?_
    refine go_if_ne (t := 13) (q := 9) (gDec iX11_addStem_ok 4 rfl) (by decide) rfl (fun c6 => False.elim (c6 rfl)) (fun c6 => ?_)
    refine go_iconst (v := nI 1) (q := 10) (gDec iX11_addStem_ok 5 rfl) (by decide) rfl ?_
    refine go_goto (t := 39) (gDec iX11_addStem_ok 6 rfl) (by decide) ?_
    refine go_puti (q := 42) fX11_54 gft11 (gDec iX11_addStem_ok 21 rfl) rfl (by decide) rfl rfl rfl rfl ?_
    refine go_aload_n (q := 43) (gDec iX11_addStem_ok 22 rfl) rfl rfl rfl ?_
    refine go_geti (q := 46) fX11_54 (gDec iX11_addStem_ok 23 rfl) rfl (by decide) rfl ?_
    refine go_top (v' := nI 1) rfl ?_
    refine go_if_le (t := 51) (q := 49) (gDec iX11_addStem_ok 24 rfl) (by decide) rfl (fun c46 => False.elim (absurd c46 (by decide))) (fun c46 => ?_)
    refine go_iconst (v := nI 0) (q := 50) (gDec iX11_addStem_ok 25 rfl) (by decide) rfl ?_
    exact go_ireturn (gDec iX11_addStem_ok 26 rfl) rfl rfl rfl (congrArg (gPut σ 376 5) xc_OAS_O) (by decide)

set_option maxHeartbeats 4000000 in
set_option maxRecDepth 100000 in
theorem okw_removeStem {κ : gK} {σ τ : gST} {i k n : Nat} (h : gAll τ σ) (h1 : gInT τ (nI i) (nI k)) (hi : i < gNg τ) (hn : n + 1 = gNs τ i) (hk : k ≤ n) : gCt κ mX11_removeStem 9 [.ref (κ.2.1 + 376), .int (nI i), .int (nI k)] σ (rI (τ.1 35 (i * 4 + k) - τ.1 33 (i * 4 + k))) (gSA (gPut (gChg (gPut σ 376 5 0) (nA (τ.1 71 2))) 377 (196 + 96 * i + 87) (nI n)).1 377 (va_cpy (upd (σ.1 377) (196 + 96 * i + 87) (nI n)) (upd (σ.1 377) (196 + 96 * i + 87) (nI n)) (196 + 96 * i + (88 + 2 * k + 2)) (196 + 96 * i + (88 + 2 * k)) (2 * (n - k))), (gPut (gChg (gPut σ 376 5 0) (nA (τ.1 71 2))) 377 (196 + 96 * i + 87) (nI n)).2) 0 := by
  have hC := h.ci
  have hM := h.mr
  have hW := hC.dw
  have h24 := hW.ng24
  have hM2 : gMR τ ((gChg (gPut σ 376 5 0) (nA (τ.1 71 2))).1 377) := hM
  have h4 := hW.ns4 (g := i) (by omega)
  refine ct_of (by decide +kernel) rfl (Nat.le_of_ble_eq_true rfl) rfl ?_
  refine go_aload_n (q := 1) (gDec iX11_removeStem_ok 0 rfl) rfl rfl rfl ?_
  refine go_aload_n (q := 2) (gDec iX11_removeStem_ok 1 rfl) rfl rfl rfl ?_
  refine go_iload_n (q := 3) (gDec iX11_removeStem_ok 2 rfl) rfl rfl rfl ?_
  refine go_iload_n (q := 4) (gDec iX11_removeStem_ok 3 rfl) rfl rfl rfl ?_
  refine go_callV (n2 := 0) (q := 7) kX11_175 (ctX11_isStem (τ := τ) hW hM) (gDec iX11_removeStem_ok 4 rfl) rfl rfl (by decide) rfl rfl rfl (Nat.le_of_ble_eq_true rfl) rfl (gFit_rm (by decide) (by decide)) rfl ?_
  refine go_top (v' := 1) (if_pos h1) ?_
  refine go_if_eq (t := 14) (q := 10) (gDec iX11_removeStem_ok 5 rfl) (by decide) rfl (fun c7 => False.elim (absurd c7 (by decide))) (fun c7 => ?_)
  refine go_iconst (v := nI 0) (q := 11) (gDec iX11_removeStem_ok 6 rfl) (by decide) rfl ?_
  refine go_goto (t := 15) (gDec iX11_removeStem_ok 7 rfl) (by decide) ?_
  refine go_puti (q := 18) fX11_54 gft11 (gDec iX11_removeStem_ok 9 rfl) rfl (by decide) rfl rfl rfl rfl ?_
  refine go_aload_n (q := 19) (gDec iX11_removeStem_ok 10 rfl) rfl rfl rfl ?_
  refine go_geti (q := 22) fX11_54 (gDec iX11_removeStem_ok 11 rfl) rfl (by decide) rfl ?_
  refine go_top (v' := nI 0) rfl ?_
  refine go_if_le (t := 27) (q := 25) (gDec iX11_removeStem_ok 12 rfl) (by decide) rfl (fun c22 => ?_) (fun c22 => False.elim (c22 (by decide)))
  refine go_aload_n (q := 28) (gDec iX11_removeStem_ok 15 rfl) rfl rfl rfl ?_
  refine go_callV (n2 := 0) (q := 31) kX11_89 (ctX11_change (n := (nA (τ.1 71 2))) h.hr.1 h.n8) (gDec iX11_removeStem_ok 16 rfl) rfl rfl (by decide) rfl rfl rfl (Nat.le_of_ble_eq_true rfl) rfl (gFit_rm (by decide) (by decide)) rfl ?_
  refine go_w (show _ = gChg (gPut σ 376 5 0) (nA (τ.1 71 2)) from rfl) ?_
  refine go_aload_n (q := 32) (gDec iX11_removeStem_ok 17 rfl) rfl rfl rfl ?_
  refine go_iload_n (q := 33) (gDec iX11_removeStem_ok 18 rfl) rfl rfl rfl ?_
  refine go_bipush (v := nI 88) (q := 35) (gDec iX11_removeStem_ok 19 rfl) (by decide) rfl ?_
  refine go_iconst (v := nI 2) (q := 36) (gDec iX11_removeStem_ok 20 rfl) (by decide) rfl ?_
  refine go_iload_n (q := 37) (gDec iX11_removeStem_ok 21 rfl) rfl rfl rfl ?_
  refine go_imulN (c := 2 * k) (q := 38) (gDec iX11_removeStem_ok 22 rfl) rfl rfl ?_
  refine go_iaddN (c := 88 + (2 * k)) (q := 39) (gDec iX11_removeStem_ok 23 rfl) rfl rfl ?_
  refine go_iconst (v := nI 1) (q := 40) (gDec iX11_removeStem_ok 24 rfl) (by decide) rfl ?_
  refine go_iaddN (c := 88 + (2 * k) + 1) (q := 41) (gDec iX11_removeStem_ok 25 rfl) rfl rfl ?_
  refine go_callV (n2 := 0) (q := 44) kX11_69 (ctX11_of (g := i) (w := 88 + (2 * k) + 1) (by omega)) (gDec iX11_removeStem_ok 26 rfl) rfl rfl (by decide) rfl rfl rfl (Nat.le_of_ble_eq_true rfl) rfl (gFit_rm (by decide) (by decide)) rfl ?_
  refine go_top (v' := τ.1 35 (i * 4 + k)) (hM2.sr hi (by omega) rfl) ?_
  refine go_aload_n (q := 45) (gDec iX11_removeStem_ok 27 rfl) rfl rfl rfl ?_
  refine go_iload_n (q := 46) (gDec iX11_removeStem_ok 28 rfl) rfl rfl rfl ?_
  refine go_bipush (v := nI 88) (q := 48) (gDec iX11_removeStem_ok 29 rfl) (by decide) rfl ?_
  refine go_iconst (v := nI 2) (q := 49) (gDec iX11_removeStem_ok 30 rfl) (by decide) rfl ?_
  refine go_iload_n (q := 50) (gDec iX11_removeStem_ok 31 rfl) rfl rfl rfl ?_
  refine go_imulN (c := 2 * k) (q := 51) (gDec iX11_removeStem_ok 32 rfl) rfl rfl ?_
  refine go_iaddN (c := 88 + (2 * k)) (q := 52) (gDec iX11_removeStem_ok 33 rfl) rfl rfl ?_
  refine go_callV (n2 := 0) (q := 55) kX11_69 (ctX11_of (g := i) (w := 88 + (2 * k)) (by omega)) (gDec iX11_removeStem_ok 34 rfl) rfl rfl (by decide) rfl rfl rfl (Nat.le_of_ble_eq_true rfl) rfl (gFit_rm (by decide) (by decide)) rfl ?_
  refine go_top (v' := τ.1 33 (i * 4 + k)) (hM2.sl hi (by omega) rfl) ?_
  refine go_isub (q := 56) (gDec iX11_removeStem_ok 35 rfl) rfl ?_
  refine go_istore_n (q := 57) (gDec iX11_removeStem_ok 36 rfl) rfl (by decide) rfl ?_
  refine go_aload_n (q := 58) (gDec iX11_removeStem_ok 37 rfl) rfl rfl rfl ?_
  refine go_getr (r' := 377) (q := 61) fX11_9 (gDec iX11_removeStem_ok 38 rfl) rfl (by decide) rfl ?_
  refine go_iload_n (q := 62) (gDec iX11_removeStem_ok 39 rfl) rfl rfl rfl ?_
  refine go_bipush (v := nI 87) (q := 64) (gDec iX11_removeStem_ok 40 rfl) (by decide) rfl ?_
  refine go_callS (n2 := 0) (q := 67) kX11_61 (ctX11_at (g := i) (w := 87)) (gDec iX11_removeStem_ok 41 rfl) rfl rfl (Nat.le_of_ble_eq_true rfl) rfl (gFit_rm (by decide) (by decide)) rfl ?_
  refine go_dup2 (q := 68) (gDec iX11_removeStem_ok 42 rfl) rfl rfl rfl ?_
  refine go_ialdN (q := 69) (gDec iX11_removeStem_ok 43 rfl) rfl (by decide) (by omega) (by decide) rfl ?_
  refine go_top (v' := nI (n + 1)) ((hM2.ns hW hi rfl).trans (by rw [hn])) ?_
  refine go_iconst (v := 1) (q := 70) (gDec iX11_removeStem_ok 44 rfl) (by decide) rfl ?_
  refine go_isub (q := 71) (gDec iX11_removeStem_ok 45 rfl) rfl ?_
  refine go_top (v' := nI n) (nI_pred n) ?_
  refine go_iastN (q := 72) (gDec iX11_removeStem_ok 46 rfl) rfl (by decide) (by omega) (by decide) rfl ?_
  refine go_aload_n (q := 73) (gDec iX11_removeStem_ok 47 rfl) rfl rfl rfl ?_
  refine go_getr (r' := 377) (q := 76) fX11_9 (gDec iX11_removeStem_ok 48 rfl) rfl (by decide) rfl ?_
  refine go_iload_n (q := 77) (gDec iX11_removeStem_ok 49 rfl) rfl rfl rfl ?_
  refine go_bipush (v := nI 88) (q := 79) (gDec iX11_removeStem_ok 50 rfl) (by decide) rfl ?_
  refine go_iconst (v := nI 2) (q := 80) (gDec iX11_removeStem_ok 51 rfl) (by decide) rfl ?_
  refine go_iload_n (q := 81) (gDec iX11_removeStem_ok 52 rfl) rfl rfl rfl ?_
  refine go_imulN (c := 2 * k) (q := 82) (gDec iX11_removeStem_ok 53 rfl) rfl rfl ?_
  refine go_iaddN (c := 88 + (2 * k)) (q := 83) (gDec iX11_removeStem_ok 54 rfl) rfl rfl ?_
  refine go_iconst (v := nI 2) (q := 84) (gDec iX11_removeStem_ok 55 rfl) (by decide) rfl ?_
  refine go_iaddN (c := 88 + (2 * k) + 2) (q := 85) (gDec iX11_removeStem_ok 56 rfl) rfl rfl ?_
  refine go_callS (n2 := 0) (q := 88) kX11_61 (ctX11_at (g := i) (w := 88 + (2 * k) + 2)) (gDec iX11_removeStem_ok 57 rfl) rfl rfl (Nat.le_of_ble_eq_true rfl) rfl (gFit_rm (by decide) (by decide)) rfl ?_
  refine go_aload_n (q := 89) (gDec iX11_removeStem_ok 58 rfl) rfl rfl rfl ?_
  refine go_getr (r' := 377) (q := 92) fX11_9 (gDec iX11_removeStem_ok 59 rfl) rfl (by decide) rfl ?_
  refine go_iload_n (q := 93) (gDec iX11_removeStem_ok 60 rfl) rfl rfl rfl ?_
  refine go_bipush (v := nI 88) (q := 95) (gDec iX11_removeStem_ok 61 rfl) (by decide) rfl ?_
  refine go_iconst (v := nI 2) (q := 96) (gDec iX11_removeStem_ok 62 rfl) (by decide) rfl ?_
  refine go_iload_n (q := 97) (gDec iX11_removeStem_ok 63 rfl) rfl rfl rfl ?_
  refine go_imulN (c := 2 * k) (q := 98) (gDec iX11_removeStem_ok 64 rfl) rfl rfl ?_
  refine go_iaddN (c := 88 + (2 * k)) (q := 99) (gDec iX11_removeStem_ok 65 rfl) rfl rfl ?_
  refine go_callS (n2 := 0) (q := 102) kX11_61 (ctX11_at (g := i) (w := 88 + (2 * k))) (gDec iX11_removeStem_ok 66 rfl) rfl rfl (Nat.le_of_ble_eq_true rfl) rfl (gFit_rm (by decide) (by decide)) rfl ?_
  refine go_iconst (v := nI 2) (q := 103) (gDec iX11_removeStem_ok 67 rfl) (by decide) rfl ?_
  refine go_aload_n (q := 104) (gDec iX11_removeStem_ok 68 rfl) rfl rfl rfl ?_
  refine go_iload_n (q := 105) (gDec iX11_removeStem_ok 69 rfl) rfl rfl rfl ?_
  refine go_bipush (v := nI 87) (q := 107) (gDec iX11_removeStem_ok 70 rfl) (by decide) rfl ?_
  refine go_callV (n2 := 0) (q := 110) kX11_69 (ctX11_of (g := i) (w := 87) (by omega)) (gDec iX11_removeStem_ok 71 rfl) rfl rfl (by decide) rfl rfl rfl (Nat.le_of_ble_eq_true rfl) rfl (gFit_rm (by decide) (by decide)) rfl ?_
  refine go_top (v' := nI n) (by rw [gPut_at, if_pos ⟨rfl, rfl⟩]) ?_
  refine go_iload_n (q := 111) (gDec iX11_removeStem_ok 72 rfl) rfl rfl rfl ?_
  refine go_isub (q := 112) (gDec iX11_removeStem_ok 73 rfl) rfl ?_
  refine go_top (v' := nI (n - k)) (nI_subN hk (by omega)) ?_
  refine go_imulN (c := 2 * (n - k)) (q := 113) (gDec iX11_removeStem_ok 74 rfl) rfl rfl ?_
  refine go_copy (q := 116) kX11_79 (gDec iX11_removeStem_ok 75 rfl) rfl rfl (by decide) (by decide) (nI_pos (by omega)) (nI_pos (by omega)) (nI_pos (by omega)) (by rw [nI_clamp (by omega), nI_clamp (by omega)]; omega) (by rw [nI_clamp (by omega), nI_clamp (by omega)]; omega) (Nat.le_of_ble_eq_true rfl) (gFit_rm (by decide) (by decide)) rfl ?_
  refine go_w (show _ = (gSA (gPut (gChg (gPut σ 376 5 0) (nA (τ.1 71 2))) 377 (196 + 96 * i + 87) (nI n)).1 377 (va_cpy (upd (σ.1 377) (196 + 96 * i + 87) (nI n)) (upd (σ.1 377) (196 + 96 * i + 87) (nI n)) (196 + 96 * i + (88 + 2 * k + 2)) (196 + 96 * i + (88 + 2 * k)) (2 * (n - k))), (gPut (gChg (gPut σ 376 5 0) (nA (τ.1 71 2))) 377 (196 + 96 * i + 87) (nI n)).2) from (by rw [nI_clamp (by omega), nI_clamp (by omega), nI_clamp (by omega)]; rfl)) ?_
  refine go_iload_n (q := 117) (gDec iX11_removeStem_ok 76 rfl) rfl rfl rfl ?_
  exact go_ireturn (gDec iX11_removeStem_ok 77 rfl) rfl rfl rfl rfl (by decide)

set_option maxHeartbeats 4000000 in
set_option maxRecDepth 100000 in
theorem ok_removeStem {κ : gK} {σ τ : gST} {g s : Int32} (h : gAll τ σ) : gOK κ mX11_removeStem [.ref (κ.2.1 + 376), .int g, .int s] σ (rI (aI (fRemoveStem τ g s).1)) kO (fRemoveStem τ g s) := by
  have hC := h.ci
  have hM := h.mr
  have hW := hC.dw
  have h24 := hW.ng24
  by_cases h1 : gInT τ g s
  · obtain ⟨i, k, hi, hk, rfl, rfl⟩ := gInT.ex hW h1
    have h4 := hW.ns4 (g := i) (by omega)
    obtain ⟨n, hn⟩ : ∃ n, n + 1 = gNs τ i := ⟨gNs τ i - 1, by omega⟩
    rw [show fRemoveStem τ (nI i) (nI k) = (rI (τ.1 35 (i * 4 + k) - τ.1 33 (i * 4 + k)), (gPut (gS2d (gRem τ) (i * 4) k (n + 1)) 31 i (nI n))) from (if_pos h1).trans (by rw [nA_nI (n := i) (by omega), nA_nI (n := k) (by omega), ← hn, Nat.add_sub_cancel])]
    have ho : ∀ x, x ≠ 31 → x ≠ 33 → x ≠ 35 → (gPut (gS2d (gRem τ) (i * 4) k (n + 1)) 31 i (nI n)).1 x = (gRem τ).1 x := fun x q1 q2 q3 => by
      unfold gS2d
      rw [gPut_ne _ _ _ q1]
      exact (gSA_ne _ _ q3).trans (gSA_ne _ _ q2)
    refine gOK.ch h (okw_removeStem h h1 hi hn (by omega)) (mt_removeStem (gRem_ci hC) (gRem_mr hC hM) (by rw [gRem_ng]; exact hi) (hn.trans ((gRem_1 τ).ns (by omega)).symm) (by omega)) (fun k hk => ho k (by omega) (by omega) (by omega)) ?_ (fun k hk => ?_) rfl
    · have e : gNg (gPut (gS2d (gRem τ) (i * 4) k (n + 1)) 31 i (nI n)) = gNg (gRem τ) := by unfold gNg; rw [ho 2 (by decide) (by decide) (by decide)]
      rw [e, gRem_ng]
      exact Nat.le_refl _
    · exact (gSA_ne _ _ hk).trans (gPut_ne _ _ _ hk)
  · rw [show fRemoveStem τ g s = (xIOB, τ) from if_neg h1]
    refine gOK.rd h rfl ?_
    refine ct_of (by decide +kernel) rfl (Nat.le_of_ble_eq_true rfl) rfl ?_
    refine go_aload_n (q := 1) (gDec iX11_removeStem_ok 0 rfl) rfl rfl rfl ?_
    refine go_aload_n (q := 2) (gDec iX11_removeStem_ok 1 rfl) rfl rfl rfl ?_
    refine go_iload_n (q := 3) (gDec iX11_removeStem_ok 2 rfl) rfl rfl rfl ?_
    refine go_iload_n (q := 4) (gDec iX11_removeStem_ok 3 rfl) rfl rfl rfl ?_
    refine go_callV (n2 := 0) (q := 7) kX11_175 (ctX11_isStem (τ := τ) hW hM) (gDec iX11_removeStem_ok 4 rfl) rfl rfl (by decide) rfl rfl rfl (Nat.le_of_ble_eq_true rfl) rfl (gFit_rm (by decide) (by decide)) rfl ?_
    refine go_top (v' := 0) (if_neg h1) ?_
    refine go_if_eq (t := 14) (q := 10) (gDec iX11_removeStem_ok 5 rfl) (by decide) rfl (fun c7 => ?_) (fun c7 => False.elim (c7 rfl))
    refine go_iconst (v := nI 1) (q := 15) (gDec iX11_removeStem_ok 8 rfl) (by decide) rfl ?_
    refine go_puti (q := 18) fX11_54 gft11 (gDec iX11_removeStem_ok 9 rfl) rfl (by decide) rfl rfl rfl rfl ?_
    refine go_aload_n (q := 19) (gDec iX11_removeStem_ok 10 rfl) rfl rfl rfl ?_
    refine go_geti (q := 22) fX11_54 (gDec iX11_removeStem_ok 11 rfl) rfl (by decide) rfl ?_
    refine go_top (v' := nI 1) rfl ?_
    refine go_if_le (t := 27) (q := 25) (gDec iX11_removeStem_ok 12 rfl) (by decide) rfl (fun c22 => False.elim (absurd c22 (by decide))) (fun c22 => ?_)
    refine go_iconst (v := nI 0) (q := 26) (gDec iX11_removeStem_ok 13 rfl) (by decide) rfl ?_
    exact go_ireturn (gDec iX11_removeStem_ok 14 rfl) rfl rfl rfl (congrArg (gPut σ 376 5) xc_O_O) (by decide)
