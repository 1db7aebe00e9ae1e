def gSh6 (x : Int64) (k : Int32) : Int64 := (x.toUInt64 >>> (k.toInt64.toUInt64 &&& Int64.toUInt64 63)).toInt64
def gPop1 (x : Int64) : Int64 := x - (gSh6 x 1 &&& 6148914691236517205)
def gPop2 (x : Int64) : Int64 := (x &&& 3689348814741910323) + (gSh6 x 2 &&& 3689348814741910323)
def gPop3 (x : Int64) : Int64 := (x + gSh6 x 4) &&& 1085102592571150095
def gPop4 (x : Int64) (k : Int32) : Int64 := x + gSh6 x k
def gPop (x : Int64) : Int32 := (gPop4 (gPop4 (gPop4 (gPop3 (gPop2 (gPop1 x))) 8) 16) 32).toInt32 &&& 127
def gYa (σ : gST) (b : Nat) (z r : Int32) : Int32 := σ.1 12 b * z - r
def gXa (σ : gST) (b : Nat) (z : Int32) : Int32 := σ.1 10 b * z
/-- the edge from the point at b to that at d, among the bits -/
def gBb (σ : gST) (z r F : Int32) (n b d : Nat) (bits : Int64) : Int64 :=
  if (gYa σ b z r ≤ 0 ↔ gYa σ d z r ≤ 0) then bits else bits ^^^ (if gYa σ b z r < gYa σ d z r
    then gMsk (fun k => gEb (gXa σ b z) (gYa σ b z r) (gXa σ d z) (gYa σ d z r) (F + nI k)) (n + 1)
    else gMsk (fun k => gEb (gXa σ d z) (gYa σ d z r) (gXa σ b z) (gYa σ b z r) (F + nI k)) (n + 1))
def gBbC (σ : gST) (z r F : Int32) (n g c : Nat) (a : Int64) : Int64 := gLoop (fun p a => gBb σ z r F n ((g * 3 + c) * 12 + p) ((g * 3 + c) * 12 + gNx (gNp σ g c) p) a) 0 (gNp σ g c) a
def gBlack (σ : gST) (z r F : Int32) (n g : Nat) : Int64 := gLoop (fun c a => gBbC σ z r F n g c a) 0 (gNc σ g) 0

set_option maxHeartbeats 4000000 in
set_option maxRecDepth 100000 in
theorem ctJ13_bitCount_95d88 {κ : gK} {σ : gST} {x : Int64} : gCt κ mJ13_bitCount_95d88 0 [.long x] σ (.inl (some (.int (gPop x)))) σ 0 := by
  refine ct_of (by decide +kernel) rfl (Nat.le_of_ble_eq_true rfl) rfl ?_
  refine go_lload_n (q := 1) (gDec iJ13_bitCount_95d88_ok 0 rfl) rfl rfl rfl ?_
  refine go_lload_n (q := 2) (gDec iJ13_bitCount_95d88_ok 1 rfl) rfl rfl rfl ?_
  refine go_iconst (v := 1) (q := 3) (gDec iJ13_bitCount_95d88_ok 2 rfl) (by decide) rfl ?_
  refine go_lushr (q := 4) (gDec iJ13_bitCount_95d88_ok 3 rfl) rfl ?_
  refine go_ldc2 (q := 7) wJ13_314 (gDec iJ13_bitCount_95d88_ok 4 rfl) rfl ?_
  refine go_land (q := 8) (gDec iJ13_bitCount_95d88_ok 5 rfl) rfl ?_
  refine go_lsub (q := 9) (gDec iJ13_bitCount_95d88_ok 6 rfl) rfl ?_
  refine go_lstore_n (q := 10) (gDec iJ13_bitCount_95d88_ok 7 rfl) rfl (by decide) rfl ?_
  refine go_lload_n (q := 11) (gDec iJ13_bitCount_95d88_ok 8 rfl) rfl rfl rfl ?_
  refine go_ldc2 (q := 14) wJ13_316 (gDec iJ13_bitCount_95d88_ok 9 rfl) rfl ?_
  refine go_land (q := 15) (gDec iJ13_bitCount_95d88_ok 10 rfl) rfl ?_
  refine go_lload_n (q := 16) (gDec iJ13_bitCount_95d88_ok 11 rfl) rfl rfl rfl ?_
  refine go_iconst (v := 2) (q := 17) (gDec iJ13_bitCount_95d88_ok 12 rfl) (by decide) rfl ?_
  refine go_lushr (q := 18) (gDec iJ13_bitCount_95d88_ok 13 rfl) rfl ?_
  refine go_ldc2 (q := 21) wJ13_316 (gDec iJ13_bitCount_95d88_ok 14 rfl) rfl ?_
  refine go_land (q := 22) (gDec iJ13_bitCount_95d88_ok 15 rfl) rfl ?_
  refine go_ladd (q := 23) (gDec iJ13_bitCount_95d88_ok 16 rfl) rfl ?_
  refine go_lstore_n (q := 24) (gDec iJ13_bitCount_95d88_ok 17 rfl) rfl (by decide) rfl ?_
  refine go_lload_n (q := 25) (gDec iJ13_bitCount_95d88_ok 18 rfl) rfl rfl rfl ?_
  refine go_lload_n (q := 26) (gDec iJ13_bitCount_95d88_ok 19 rfl) rfl rfl rfl ?_
  refine go_iconst (v := 4) (q := 27) (gDec iJ13_bitCount_95d88_ok 20 rfl) (by decide) rfl ?_
  refine go_lushr (q := 28) (gDec iJ13_bitCount_95d88_ok 21 rfl) rfl ?_
  refine go_ladd (q := 29) (gDec iJ13_bitCount_95d88_ok 22 rfl) rfl ?_
  refine go_ldc2 (q := 32) wJ13_318 (gDec iJ13_bitCount_95d88_ok 23 rfl) rfl ?_
  refine go_land (q := 33) (gDec iJ13_bitCount_95d88_ok 24 rfl) rfl ?_
  refine go_lstore_n (q := 34) (gDec iJ13_bitCount_95d88_ok 25 rfl) rfl (by decide) rfl ?_
  refine go_lload_n (q := 35) (gDec iJ13_bitCount_95d88_ok 26 rfl) rfl rfl rfl ?_
  refine go_lload_n (q := 36) (gDec iJ13_bitCount_95d88_ok 27 rfl) rfl rfl rfl ?_
  refine go_bipush (v := 8) (q := 38) (gDec iJ13_bitCount_95d88_ok 28 rfl) (by decide) rfl ?_
  refine go_lushr (q := 39) (gDec iJ13_bitCount_95d88_ok 29 rfl) rfl ?_
  refine go_ladd (q := 40) (gDec iJ13_bitCount_95d88_ok 30 rfl) rfl ?_
  refine go_lstore_n (q := 41) (gDec iJ13_bitCount_95d88_ok 31 rfl) rfl (by decide) rfl ?_
  refine go_lload_n (q := 42) (gDec iJ13_bitCount_95d88_ok 32 rfl) rfl rfl rfl ?_
  refine go_lload_n (q := 43) (gDec iJ13_bitCount_95d88_ok 33 rfl) rfl rfl rfl ?_
  refine go_bipush (v := 16) (q := 45) (gDec iJ13_bitCount_95d88_ok 34 rfl) (by decide) rfl ?_
  refine go_lushr (q := 46) (gDec iJ13_bitCount_95d88_ok 35 rfl) rfl ?_
  refine go_ladd (q := 47) (gDec iJ13_bitCount_95d88_ok 36 rfl) rfl ?_
  refine go_lstore_n (q := 48) (gDec iJ13_bitCount_95d88_ok 37 rfl) rfl (by decide) rfl ?_
  refine go_lload_n (q := 49) (gDec iJ13_bitCount_95d88_ok 38 rfl) rfl rfl rfl ?_
  refine go_lload_n (q := 50) (gDec iJ13_bitCount_95d88_ok 39 rfl) rfl rfl rfl ?_
  refine go_bipush (v := 32) (q := 52) (gDec iJ13_bitCount_95d88_ok 40 rfl) (by decide) rfl ?_
  refine go_lushr (q := 53) (gDec iJ13_bitCount_95d88_ok 41 rfl) rfl ?_
  refine go_ladd (q := 54) (gDec iJ13_bitCount_95d88_ok 42 rfl) rfl ?_
  refine go_lstore_n (q := 55) (gDec iJ13_bitCount_95d88_ok 43 rfl) rfl (by decide) rfl ?_
  refine go_lload_n (q := 56) (gDec iJ13_bitCount_95d88_ok 44 rfl) rfl rfl rfl ?_
  refine go_l2i (q := 57) (gDec iJ13_bitCount_95d88_ok 45 rfl) rfl ?_
  refine go_bipush (v := 127) (q := 59) (gDec iJ13_bitCount_95d88_ok 46 rfl) (by decide) rfl ?_
  refine go_iand (q := 60) (gDec iJ13_bitCount_95d88_ok 47 rfl) rfl ?_
  exact go_ireturn (gDec iJ13_bitCount_95d88_ok 48 rfl) rfl rfl rfl rfl (by decide)

set_option maxHeartbeats 4000000 in
set_option maxRecDepth 100000 in
theorem lpX5_bb3 {κ : gK} {Z : gZ} {σ : gST} {g c p P n : Nat} {z row r F : Int32} {a : Int64} (hg : g < 24) (hc : c < 3) (hp : p < P) (hP2 : P ≤ 12) (hP : σ.1 8 (g * 3 + c) = nI P) (hF : -1000 ≤ F.toInt ∧ F.toInt ≤ 1000) (hn : n ≤ 100) (kk : Go κ mX5_blackBits (gRm 3 0) Z 179 [(0, .ref (κ.2.1 + 2)), (1, .int (nI g)), (2, .int z), (3, .int row), (4, .int F), (5, .int (F + nI n)), (6, .int r), (7, .long (gBb σ z r F n ((g * 3 + c) * 12 + p) ((g * 3 + c) * 12 + gNx P p) a)), (9, .int (nI c)), (10, .int (nI p))] [] σ 0) : Go κ mX5_blackBits (gRm 3 0) Z 42 [(0, .ref (κ.2.1 + 2)), (1, .int (nI g)), (2, .int z), (3, .int row), (4, .int F), (5, .int (F + nI n)), (6, .int r), (7, .long a), (9, .int (nI c)), (10, .int (nI p))] [] σ 0 := by
  have hnx := gNx_lt hp
  by_cases h1 : gYa σ ((g * 3 + c) * 12 + p) z r ≤ 0
  · by_cases h2 : gYa σ ((g * 3 + c) * 12 + gNx P p) z r ≤ 0
    · skip
      refine go_aload_n (q := 43) (gDec iX5_blackBits_ok 25 rfl) rfl rfl rfl ?_
      refine go_iload_n (q := 44) (gDec iX5_blackBits_ok 26 rfl) rfl rfl rfl ?_
      refine go_iload (q := 46) (gDec iX5_blackBits_ok 27 rfl) rfl rfl ?_
      refine go_iload (q := 48) (gDec iX5_blackBits_ok 28 rfl) rfl rfl ?_
      refine go_callV (n2 := 0) (q := 51) kX5_90 (ctX5_nextPoint (by omega) (by omega) hP (by omega) hP2) (gDec iX5_blackBits_ok 29 rfl) rfl rfl (by decide) rfl rfl rfl (Nat.le_of_ble_eq_true rfl) rfl (gFit_rm (by decide) (by decide)) rfl ?_
      refine go_istore (q := 53) (gDec iX5_blackBits_ok 30 rfl) (by decide) rfl ?_
      refine go_aload_n (q := 54) (gDec iX5_blackBits_ok 31 rfl) rfl rfl rfl ?_
      refine go_iload_n (q := 55) (gDec iX5_blackBits_ok 32 rfl) rfl rfl rfl ?_
      refine go_iload (q := 57) (gDec iX5_blackBits_ok 33 rfl) rfl rfl ?_
      refine go_iload (q := 59) (gDec iX5_blackBits_ok 34 rfl) rfl rfl ?_
      refine go_callV (n2 := 0) (q := 62) kX5_75 (ctX5_yOf (p := p) (by omega) (by omega) (by omega)) (gDec iX5_blackBits_ok 35 rfl) rfl rfl (by decide) rfl rfl rfl (Nat.le_of_ble_eq_true rfl) rfl (gFit_rm (by decide) (by decide)) rfl ?_
      refine go_iload_n (q := 63) (gDec iX5_blackBits_ok 36 rfl) rfl rfl rfl ?_
      refine go_imul (q := 64) (gDec iX5_blackBits_ok 37 rfl) rfl ?_
      refine go_iload (q := 66) (gDec iX5_blackBits_ok 38 rfl) rfl rfl ?_
      refine go_isub (q := 67) (gDec iX5_blackBits_ok 39 rfl) rfl ?_
      refine go_istore (q := 69) (gDec iX5_blackBits_ok 40 rfl) (by decide) rfl ?_
      refine go_aload_n (q := 70) (gDec iX5_blackBits_ok 41 rfl) rfl rfl rfl ?_
      refine go_iload_n (q := 71) (gDec iX5_blackBits_ok 42 rfl) rfl rfl rfl ?_
      refine go_iload (q := 73) (gDec iX5_blackBits_ok 43 rfl) rfl rfl ?_
      refine go_iload (q := 75) (gDec iX5_blackBits_ok 44 rfl) rfl rfl ?_
      refine go_callV (n2 := 0) (q := 78) kX5_75 (ctX5_yOf (p := gNx P p) (by omega) (by omega) (by omega)) (gDec iX5_blackBits_ok 45 rfl) rfl rfl (by decide) rfl rfl rfl (Nat.le_of_ble_eq_true rfl) rfl (gFit_rm (by decide) (by decide)) rfl ?_
      refine go_iload_n (q := 79) (gDec iX5_blackBits_ok 46 rfl) rfl rfl rfl ?_
      refine go_imul (q := 80) (gDec iX5_blackBits_ok 47 rfl) rfl ?_
      refine go_iload (q := 82) (gDec iX5_blackBits_ok 48 rfl) rfl rfl ?_
      refine go_isub (q := 83) (gDec iX5_blackBits_ok 49 rfl) rfl ?_
      refine go_istore (q := 85) (gDec iX5_blackBits_ok 50 rfl) (by decide) rfl ?_
      refine go_iload (q := 87) (gDec iX5_blackBits_ok 51 rfl) rfl rfl ?_
      refine go_if_gt (t := 94) (q := 90) (gDec iX5_blackBits_ok 52 rfl) (by decide) rfl (fun c87 => False.elim (absurd c87 (Int32.not_lt.mpr h1))) (fun c87 => ?_)
      refine go_iconst (v := 1) (q := 91) (gDec iX5_blackBits_ok 53 rfl) (by decide) rfl ?_
      refine go_goto (t := 95) (gDec iX5_blackBits_ok 54 rfl) (by decide) ?_
      refine go_iload (q := 97) (gDec iX5_blackBits_ok 56 rfl) rfl rfl ?_
      refine go_if_gt (t := 104) (q := 100) (gDec iX5_blackBits_ok 57 rfl) (by decide) rfl (fun c97 => False.elim (absurd c97 (Int32.not_lt.mpr h2))) (fun c97 => ?_)
      refine go_iconst (v := 1) (q := 101) (gDec iX5_blackBits_ok 58 rfl) (by decide) rfl ?_
      refine go_goto (t := 105) (gDec iX5_blackBits_ok 59 rfl) (by decide) ?_
      refine go_icmp_eq (t := 179) (q := 108) (gDec iX5_blackBits_ok 61 rfl) (by decide) rfl (fun c105 => ?_) (fun c105 => False.elim (c105 rfl))
      rw [show gBb σ z r F n ((g * 3 + c) * 12 + p) ((g * 3 + c) * 12 + gNx P p) a = _ from if_pos ⟨fun _ => h2, fun _ => h1⟩] at kk
      refine go_sub (L' := [(0, .ref (κ.2.1 + 2)), (1, .int (nI g)), (2, .int z), (3, .int row), (4, .int F), (5, .int (F + nI n)), (6, .int r), (7, .long _), (9, .int (nI c)), (10, .int (nI p))]) ⟨rfl, rfl, rfl, rfl, rfl, rfl, rfl, rfl, rfl, rfl, trivial⟩ ?_
      exact kk
    · by_cases h3 : gYa σ ((g * 3 + c) * 12 + p) z r < gYa σ ((g * 3 + c) * 12 + gNx P p) z r
      · skip
        refine go_aload_n (q := 43) (gDec iX5_blackBits_ok 25 rfl) rfl rfl rfl ?_
        refine go_iload_n (q := 44) (gDec iX5_blackBits_ok 26 rfl) rfl rfl rfl ?_
        refine go_iload (q := 46) (gDec iX5_blackBits_ok 27 rfl) rfl rfl ?_
        refine go_iload (q := 48) (gDec iX5_blackBits_ok 28 rfl) rfl rfl ?_
        refine go_callV (n2 := 0) (q := 51) kX5_90 (ctX5_nextPoint (by omega) (by omega) hP (by omega) hP2) (gDec iX5_blackBits_ok 29 rfl) rfl rfl (by decide) rfl rfl rfl (Nat.le_of_ble_eq_true rfl) rfl (gFit_rm (by decide) (by decide)) rfl ?_
        refine go_istore (q := 53) (gDec iX5_blackBits_ok 30 rfl) (by decide) rfl ?_
        refine go_aload_n (q := 54) (gDec iX5_blackBits_ok 31 rfl) rfl rfl rfl ?_
        refine go_iload_n (q := 55) (gDec iX5_blackBits_ok 32 rfl) rfl rfl rfl ?_
        refine go_iload (q := 57) (gDec iX5_blackBits_ok 33 rfl) rfl rfl ?_
        refine go_iload (q := 59) (gDec iX5_blackBits_ok 34 rfl) rfl rfl ?_
        refine go_callV (n2 := 0) (q := 62) kX5_75 (ctX5_yOf (p := p) (by omega) (by omega) (by omega)) (gDec iX5_blackBits_ok 35 rfl) rfl rfl (by decide) rfl rfl rfl (Nat.le_of_ble_eq_true rfl) rfl (gFit_rm (by decide) (by decide)) rfl ?_
        refine go_iload_n (q := 63) (gDec iX5_blackBits_ok 36 rfl) rfl rfl rfl ?_
        refine go_imul (q := 64) (gDec iX5_blackBits_ok 37 rfl) rfl ?_
        refine go_iload (q := 66) (gDec iX5_blackBits_ok 38 rfl) rfl rfl ?_
        refine go_isub (q := 67) (gDec iX5_blackBits_ok 39 rfl) rfl ?_
        refine go_istore (q := 69) (gDec iX5_blackBits_ok 40 rfl) (by decide) rfl ?_
        refine go_aload_n (q := 70) (gDec iX5_blackBits_ok 41 rfl) rfl rfl rfl ?_
        refine go_iload_n (q := 71) (gDec iX5_blackBits_ok 42 rfl) rfl rfl rfl ?_
        refine go_iload (q := 73) (gDec iX5_blackBits_ok 43 rfl) rfl rfl ?_
        refine go_iload (q := 75) (gDec iX5_blackBits_ok 44 rfl) rfl rfl ?_
        refine go_callV (n2 := 0) (q := 78) kX5_75 (ctX5_yOf (p := gNx P p) (by omega) (by omega) (by omega)) (gDec iX5_blackBits_ok 45 rfl) rfl rfl (by decide) rfl rfl rfl (Nat.le_of_ble_eq_true rfl) rfl (gFit_rm (by decide) (by decide)) rfl ?_
        refine go_iload_n (q := 79) (gDec iX5_blackBits_ok 46 rfl) rfl rfl rfl ?_
        refine go_imul (q := 80) (gDec iX5_blackBits_ok 47 rfl) rfl ?_
        refine go_iload (q := 82) (gDec iX5_blackBits_ok 48 rfl) rfl rfl ?_
        refine go_isub (q := 83) (gDec iX5_blackBits_ok 49 rfl) rfl ?_
        refine go_istore (q := 85) (gDec iX5_blackBits_ok 50 rfl) (by decide) rfl ?_
        refine go_iload (q := 87) (gDec iX5_blackBits_ok 51 rfl) rfl rfl ?_
        refine go_if_gt (t := 94) (q := 90) (gDec iX5_blackBits_ok 52 rfl) (by decide) rfl (fun c87 => False.elim (absurd c87 (Int32.not_lt.mpr h1))) (fun c87 => ?_)
        refine go_iconst (v := 1) (q := 91) (gDec iX5_blackBits_ok 53 rfl) (by decide) rfl ?_
        refine go_goto (t := 95) (gDec iX5_blackBits_ok 54 rfl) (by decide) ?_
        refine go_iload (q := 97) (gDec iX5_blackBits_ok 56 rfl) rfl rfl ?_
        refine go_if_gt (t := 104) (q := 100) (gDec iX5_blackBits_ok 57 rfl) (by decide) rfl (fun c97 => ?_) (fun c97 => False.elim (c97 (Int32.not_le.mp h2)))
        refine go_iconst (v := 0) (q := 105) (gDec iX5_blackBits_ok 60 rfl) (by decide) rfl ?_
        refine go_icmp_eq (t := 179) (q := 108) (gDec iX5_blackBits_ok 61 rfl) (by decide) rfl (fun c105 => False.elim (absurd c105 (by decide))) (fun c105 => ?_)
        refine go_aload_n (q := 109) (gDec iX5_blackBits_ok 62 rfl) rfl rfl rfl ?_
        refine go_iload_n (q := 110) (gDec iX5_blackBits_ok 63 rfl) rfl rfl rfl ?_
        refine go_iload (q := 112) (gDec iX5_blackBits_ok 64 rfl) rfl rfl ?_
        refine go_iload (q := 114) (gDec iX5_blackBits_ok 65 rfl) rfl rfl ?_
        refine go_callV (n2 := 0) (q := 117) kX5_72 (ctX5_xOf (p := p) (by omega) (by omega) (by omega)) (gDec iX5_blackBits_ok 66 rfl) rfl rfl (by decide) rfl rfl rfl (Nat.le_of_ble_eq_true rfl) rfl (gFit_rm (by decide) (by decide)) rfl ?_
        refine go_iload_n (q := 118) (gDec iX5_blackBits_ok 67 rfl) rfl rfl rfl ?_
        refine go_imul (q := 119) (gDec iX5_blackBits_ok 68 rfl) rfl ?_
        refine go_istore (q := 121) (gDec iX5_blackBits_ok 69 rfl) (by decide) rfl ?_
        refine go_aload_n (q := 122) (gDec iX5_blackBits_ok 70 rfl) rfl rfl rfl ?_
        refine go_iload_n (q := 123) (gDec iX5_blackBits_ok 71 rfl) rfl rfl rfl ?_
        refine go_iload (q := 125) (gDec iX5_blackBits_ok 72 rfl) rfl rfl ?_
        refine go_iload (q := 127) (gDec iX5_blackBits_ok 73 rfl) rfl rfl ?_
        refine go_callV (n2 := 0) (q := 130) kX5_72 (ctX5_xOf (p := gNx P p) (by omega) (by omega) (by omega)) (gDec iX5_blackBits_ok 74 rfl) rfl rfl (by decide) rfl rfl rfl (Nat.le_of_ble_eq_true rfl) rfl (gFit_rm (by decide) (by decide)) rfl ?_
        refine go_iload_n (q := 131) (gDec iX5_blackBits_ok 75 rfl) rfl rfl rfl ?_
        refine go_imul (q := 132) (gDec iX5_blackBits_ok 76 rfl) rfl ?_
        refine go_istore (q := 134) (gDec iX5_blackBits_ok 77 rfl) (by decide) rfl ?_
        refine go_lload (q := 136) (gDec iX5_blackBits_ok 78 rfl) rfl rfl ?_
        refine go_iload (q := 138) (gDec iX5_blackBits_ok 79 rfl) rfl rfl ?_
        refine go_iload (q := 140) (gDec iX5_blackBits_ok 80 rfl) rfl rfl ?_
        refine go_icmp_le (t := 161) (q := 143) (gDec iX5_blackBits_ok 81 rfl) (by decide) rfl (fun c140 => False.elim (absurd h3 (Int32.not_lt.mpr c140))) (fun c140 => ?_)
        refine go_iload (q := 145) (gDec iX5_blackBits_ok 82 rfl) rfl rfl ?_
        refine go_iload (q := 147) (gDec iX5_blackBits_ok 83 rfl) rfl rfl ?_
        refine go_iload (q := 149) (gDec iX5_blackBits_ok 84 rfl) rfl rfl ?_
        refine go_iload (q := 151) (gDec iX5_blackBits_ok 85 rfl) rfl rfl ?_
        refine go_iload (q := 153) (gDec iX5_blackBits_ok 86 rfl) rfl rfl ?_
        refine go_iload (q := 155) (gDec iX5_blackBits_ok 87 rfl) rfl rfl ?_
        refine go_callS (n2 := 0) (q := 158) kX5_99 (ctX5_bitsBefore (n := n) hF hn) (gDec iX5_blackBits_ok 88 rfl) rfl rfl (Nat.le_of_ble_eq_true rfl) rfl (gFit_rm (by decide) (by decide)) rfl ?_
        refine go_goto (t := 176) (gDec iX5_blackBits_ok 89 rfl) (by decide) ?_
        refine go_lxor (q := 177) (gDec iX5_blackBits_ok 97 rfl) rfl ?_
        refine go_lstore (q := 179) (gDec iX5_blackBits_ok 98 rfl) (by decide) rfl ?_
        rw [show gBb σ z r F n ((g * 3 + c) * 12 + p) ((g * 3 + c) * 12 + gNx P p) a = _ from (if_neg (fun h => h2 (h.mp h1))).trans (congrArg (a ^^^ ·) (if_pos h3))] at kk
        refine go_sub (L' := [(0, .ref (κ.2.1 + 2)), (1, .int (nI g)), (2, .int z), (3, .int row), (4, .int F), (5, .int (F + nI n)), (6, .int r), (7, .long _), (9, .int (nI c)), (10, .int (nI p))]) ⟨rfl, rfl, rfl, rfl, rfl, rfl, rfl, rfl, rfl, rfl, trivial⟩ ?_
        exact kk
      · skip
        refine go_aload_n (q := 43) (gDec iX5_blackBits_ok 25 rfl) rfl rfl rfl ?_
        refine go_iload_n (q := 44) (gDec iX5_blackBits_ok 26 rfl) rfl rfl rfl ?_
        refine go_iload (q := 46) (gDec iX5_blackBits_ok 27 rfl) rfl rfl ?_
        refine go_iload (q := 48) (gDec iX5_blackBits_ok 28 rfl) rfl rfl ?_
        refine go_callV (n2 := 0) (q := 51) kX5_90 (ctX5_nextPoint (by omega) (by omega) hP (by omega) hP2) (gDec iX5_blackBits_ok 29 rfl) rfl rfl (by decide) rfl rfl rfl (Nat.le_of_ble_eq_true rfl) rfl (gFit_rm (by decide) (by decide)) rfl ?_
        refine go_istore (q := 53) (gDec iX5_blackBits_ok 30 rfl) (by decide) rfl ?_
        refine go_aload_n (q := 54) (gDec iX5_blackBits_ok 31 rfl) rfl rfl rfl ?_
        refine go_iload_n (q := 55) (gDec iX5_blackBits_ok 32 rfl) rfl rfl rfl ?_
        refine go_iload (q := 57) (gDec iX5_blackBits_ok 33 rfl) rfl rfl ?_
        refine go_iload (q := 59) (gDec iX5_blackBits_ok 34 rfl) rfl rfl ?_
        refine go_callV (n2 := 0) (q := 62) kX5_75 (ctX5_yOf (p := p) (by omega) (by omega) (by omega)) (gDec iX5_blackBits_ok 35 rfl) rfl rfl (by decide) rfl rfl rfl (Nat.le_of_ble_eq_true rfl) rfl (gFit_rm (by decide) (by decide)) rfl ?_
        refine go_iload_n (q := 63) (gDec iX5_blackBits_ok 36 rfl) rfl rfl rfl ?_
        refine go_imul (q := 64) (gDec iX5_blackBits_ok 37 rfl) rfl ?_
        refine go_iload (q := 66) (gDec iX5_blackBits_ok 38 rfl) rfl rfl ?_
        refine go_isub (q := 67) (gDec iX5_blackBits_ok 39 rfl) rfl ?_
        refine go_istore (q := 69) (gDec iX5_blackBits_ok 40 rfl) (by decide) rfl ?_
        refine go_aload_n (q := 70) (gDec iX5_blackBits_ok 41 rfl) rfl rfl rfl ?_
        refine go_iload_n (q := 71) (gDec iX5_blackBits_ok 42 rfl) rfl rfl rfl ?_
        refine go_iload (q := 73) (gDec iX5_blackBits_ok 43 rfl) rfl rfl ?_
        refine go_iload (q := 75) (gDec iX5_blackBits_ok 44 rfl) rfl rfl ?_
        refine go_callV (n2 := 0) (q := 78) kX5_75 (ctX5_yOf (p := gNx P p) (by omega) (by omega) (by omega)) (gDec iX5_blackBits_ok 45 rfl) rfl rfl (by decide) rfl rfl rfl (Nat.le_of_ble_eq_true rfl) rfl (gFit_rm (by decide) (by decide)) rfl ?_
        refine go_iload_n (q := 79) (gDec iX5_blackBits_ok 46 rfl) rfl rfl rfl ?_
        refine go_imul (q := 80) (gDec iX5_blackBits_ok 47 rfl) rfl ?_
        refine go_iload (q := 82) (gDec iX5_blackBits_ok 48 rfl) rfl rfl ?_
        refine go_isub (q := 83) (gDec iX5_blackBits_ok 49 rfl) rfl ?_
        refine go_istore (q := 85) (gDec iX5_blackBits_ok 50 rfl) (by decide) rfl ?_
        refine go_iload (q := 87) (gDec iX5_blackBits_ok 51 rfl) rfl rfl ?_
        refine go_if_gt (t := 94) (q := 90) (gDec iX5_blackBits_ok 52 rfl) (by decide) rfl (fun c87 => False.elim (absurd c87 (Int32.not_lt.mpr h1))) (fun c87 => ?_)
        refine go_iconst (v := 1) (q := 91) (gDec iX5_blackBits_ok 53 rfl) (by decide) rfl ?_
        refine go_goto (t := 95) (gDec iX5_blackBits_ok 54 rfl) (by decide) ?_
        refine go_iload (q := 97) (gDec iX5_blackBits_ok 56 rfl) rfl rfl ?_
        refine go_if_gt (t := 104) (q := 100) (gDec iX5_blackBits_ok 57 rfl) (by decide) rfl (fun c97 => ?_) (fun c97 => False.elim (c97 (Int32.not_le.mp h2)))
        refine go_iconst (v := 0) (q := 105) (gDec iX5_blackBits_ok 60 rfl) (by decide) rfl ?_
        refine go_icmp_eq (t := 179) (q := 108) (gDec iX5_blackBits_ok 61 rfl) (by decide) rfl (fun c105 => False.elim (absurd c105 (by decide))) (fun c105 => ?_)
        refine go_aload_n (q := 109) (gDec iX5_blackBits_ok 62 rfl) rfl rfl rfl ?_
        refine go_iload_n (q := 110) (gDec iX5_blackBits_ok 63 rfl) rfl rfl rfl ?_
        refine go_iload (q := 112) (gDec iX5_blackBits_ok 64 rfl) rfl rfl ?_
        refine go_iload (q := 114) (gDec iX5_blackBits_ok 65 rfl) rfl rfl ?_
        refine go_callV (n2 := 0) (q := 117) kX5_72 (ctX5_xOf (p := p) (by omega) (by omega) (by omega)) (gDec iX5_blackBits_ok 66 rfl) rfl rfl (by decide) rfl rfl rfl (Nat.le_of_ble_eq_true rfl) rfl (gFit_rm (by decide) (by decide)) rfl ?_
        refine go_iload_n (q := 118) (gDec iX5_blackBits_ok 67 rfl) rfl rfl rfl ?_
        refine go_imul (q := 119) (gDec iX5_blackBits_ok 68 rfl) rfl ?_
        refine go_istore (q := 121) (gDec iX5_blackBits_ok 69 rfl) (by decide) rfl ?_
        refine go_aload_n (q := 122) (gDec iX5_blackBits_ok 70 rfl) rfl rfl rfl ?_
        refine go_iload_n (q := 123) (gDec iX5_blackBits_ok 71 rfl) rfl rfl rfl ?_
        refine go_iload (q := 125) (gDec iX5_blackBits_ok 72 rfl) rfl rfl ?_
        refine go_iload (q := 127) (gDec iX5_blackBits_ok 73 rfl) rfl rfl ?_
        refine go_callV (n2 := 0) (q := 130) kX5_72 (ctX5_xOf (p := gNx P p) (by omega) (by omega) (by omega)) (gDec iX5_blackBits_ok 74 rfl) rfl rfl (by decide) rfl rfl rfl (Nat.le_of_ble_eq_true rfl) rfl (gFit_rm (by decide) (by decide)) rfl ?_
        refine go_iload_n (q := 131) (gDec iX5_blackBits_ok 75 rfl) rfl rfl rfl ?_
        refine go_imul (q := 132) (gDec iX5_blackBits_ok 76 rfl) rfl ?_
        refine go_istore (q := 134) (gDec iX5_blackBits_ok 77 rfl) (by decide) rfl ?_
        refine go_lload (q := 136) (gDec iX5_blackBits_ok 78 rfl) rfl rfl ?_
        refine go_iload (q := 138) (gDec iX5_blackBits_ok 79 rfl) rfl rfl ?_
        refine go_iload (q := 140) (gDec iX5_blackBits_ok 80 rfl) rfl rfl ?_
        refine go_icmp_le (t := 161) (q := 143) (gDec iX5_blackBits_ok 81 rfl) (by decide) rfl (fun c140 => ?_) (fun c140 => False.elim (c140 (Int32.not_lt.mp h3)))
        refine go_iload (q := 163) (gDec iX5_blackBits_ok 90 rfl) rfl rfl ?_
        refine go_iload (q := 165) (gDec iX5_blackBits_ok 91 rfl) rfl rfl ?_
        refine go_iload (q := 167) (gDec iX5_blackBits_ok 92 rfl) rfl rfl ?_
        refine go_iload (q := 169) (gDec iX5_blackBits_ok 93 rfl) rfl rfl ?_
        refine go_iload (q := 171) (gDec iX5_blackBits_ok 94 rfl) rfl rfl ?_
        refine go_iload (q := 173) (gDec iX5_blackBits_ok 95 rfl) rfl rfl ?_
        refine go_callS (n2 := 0) (q := 176) kX5_99 (ctX5_bitsBefore (n := n) hF hn) (gDec iX5_blackBits_ok 96 rfl) rfl rfl (Nat.le_of_ble_eq_true rfl) rfl (gFit_rm (by decide) (by decide)) rfl ?_
        refine go_lxor (q := 177) (gDec iX5_blackBits_ok 97 rfl) rfl ?_
        refine go_lstore (q := 179) (gDec iX5_blackBits_ok 98 rfl) (by decide) rfl ?_
        rw [show gBb σ z r F n ((g * 3 + c) * 12 + p) ((g * 3 + c) * 12 + gNx P p) a = _ from (if_neg (fun h => h2 (h.mp h1))).trans (congrArg (a ^^^ ·) (if_neg h3))] at kk
        refine go_sub (L' := [(0, .ref (κ.2.1 + 2)), (1, .int (nI g)), (2, .int z), (3, .int row), (4, .int F), (5, .int (F + nI n)), (6, .int r), (7, .long _), (9, .int (nI c)), (10, .int (nI p))]) ⟨rfl, rfl, rfl, rfl, rfl, rfl, rfl, rfl, rfl, rfl, trivial⟩ ?_
        exact kk
  · by_cases h2 : gYa σ ((g * 3 + c) * 12 + gNx P p) z r ≤ 0
    · by_cases h3 : gYa σ ((g * 3 + c) * 12 + p) z r < gYa σ ((g * 3 + c) * 12 + gNx P p) z r
      · skip
        refine go_aload_n (q := 43) (gDec iX5_blackBits_ok 25 rfl) rfl rfl rfl ?_
        refine go_iload_n (q := 44) (gDec iX5_blackBits_ok 26 rfl) rfl rfl rfl ?_
        refine go_iload (q := 46) (gDec iX5_blackBits_ok 27 rfl) rfl rfl ?_
        refine go_iload (q := 48) (gDec iX5_blackBits_ok 28 rfl) rfl rfl ?_
        refine go_callV (n2 := 0) (q := 51) kX5_90 (ctX5_nextPoint (by omega) (by omega) hP (by omega) hP2) (gDec iX5_blackBits_ok 29 rfl) rfl rfl (by decide) rfl rfl rfl (Nat.le_of_ble_eq_true rfl) rfl (gFit_rm (by decide) (by decide)) rfl ?_
        refine go_istore (q := 53) (gDec iX5_blackBits_ok 30 rfl) (by decide) rfl ?_
        refine go_aload_n (q := 54) (gDec iX5_blackBits_ok 31 rfl) rfl rfl rfl ?_
        refine go_iload_n (q := 55) (gDec iX5_blackBits_ok 32 rfl) rfl rfl rfl ?_
        refine go_iload (q := 57) (gDec iX5_blackBits_ok 33 rfl) rfl rfl ?_
        refine go_iload (q := 59) (gDec iX5_blackBits_ok 34 rfl) rfl rfl ?_
        refine go_callV (n2 := 0) (q := 62) kX5_75 (ctX5_yOf (p := p) (by omega) (by omega) (by omega)) (gDec iX5_blackBits_ok 35 rfl) rfl rfl (by decide) rfl rfl rfl (Nat.le_of_ble_eq_true rfl) rfl (gFit_rm (by decide) (by decide)) rfl ?_
        refine go_iload_n (q := 63) (gDec iX5_blackBits_ok 36 rfl) rfl rfl rfl ?_
        refine go_imul (q := 64) (gDec iX5_blackBits_ok 37 rfl) rfl ?_
        refine go_iload (q := 66) (gDec iX5_blackBits_ok 38 rfl) rfl rfl ?_
        refine go_isub (q := 67) (gDec iX5_blackBits_ok 39 rfl) rfl ?_
        refine go_istore (q := 69) (gDec iX5_blackBits_ok 40 rfl) (by decide) rfl ?_
        refine go_aload_n (q := 70) (gDec iX5_blackBits_ok 41 rfl) rfl rfl rfl ?_
        refine go_iload_n (q := 71) (gDec iX5_blackBits_ok 42 rfl) rfl rfl rfl ?_
        refine go_iload (q := 73) (gDec iX5_blackBits_ok 43 rfl) rfl rfl ?_
        refine go_iload (q := 75) (gDec iX5_blackBits_ok 44 rfl) rfl rfl ?_
        refine go_callV (n2 := 0) (q := 78) kX5_75 (ctX5_yOf (p := gNx P p) (by omega) (by omega) (by omega)) (gDec iX5_blackBits_ok 45 rfl) rfl rfl (by decide) rfl rfl rfl (Nat.le_of_ble_eq_true rfl) rfl (gFit_rm (by decide) (by decide)) rfl ?_
        refine go_iload_n (q := 79) (gDec iX5_blackBits_ok 46 rfl) rfl rfl rfl ?_
        refine go_imul (q := 80) (gDec iX5_blackBits_ok 47 rfl) rfl ?_
        refine go_iload (q := 82) (gDec iX5_blackBits_ok 48 rfl) rfl rfl ?_
        refine go_isub (q := 83) (gDec iX5_blackBits_ok 49 rfl) rfl ?_
        refine go_istore (q := 85) (gDec iX5_blackBits_ok 50 rfl) (by decide) rfl ?_
        refine go_iload (q := 87) (gDec iX5_blackBits_ok 51 rfl) rfl rfl ?_
        refine go_if_gt (t := 94) (q := 90) (gDec iX5_blackBits_ok 52 rfl) (by decide) rfl (fun c87 => ?_) (fun c87 => False.elim (c87 (Int32.not_le.mp h1)))
        refine go_iconst (v := 0) (q := 95) (gDec iX5_blackBits_ok 55 rfl) (by decide) rfl ?_
        refine go_iload (q := 97) (gDec iX5_blackBits_ok 56 rfl) rfl rfl ?_
        refine go_if_gt (t := 104) (q := 100) (gDec iX5_blackBits_ok 57 rfl) (by decide) rfl (fun c97 => False.elim (absurd c97 (Int32.not_lt.mpr h2))) (fun c97 => ?_)
        refine go_iconst (v := 1) (q := 101) (gDec iX5_blackBits_ok 58 rfl) (by decide) rfl ?_
        refine go_goto (t := 105) (gDec iX5_blackBits_ok 59 rfl) (by decide) ?_
        refine go_icmp_eq (t := 179) (q := 108) (gDec iX5_blackBits_ok 61 rfl) (by decide) rfl (fun c105 => False.elim (absurd c105 (by decide))) (fun c105 => ?_)
        refine go_aload_n (q := 109) (gDec iX5_blackBits_ok 62 rfl) rfl rfl rfl ?_
        refine go_iload_n (q := 110) (gDec iX5_blackBits_ok 63 rfl) rfl rfl rfl ?_
        refine go_iload (q := 112) (gDec iX5_blackBits_ok 64 rfl) rfl rfl ?_
        refine go_iload (q := 114) (gDec iX5_blackBits_ok 65 rfl) rfl rfl ?_
        refine go_callV (n2 := 0) (q := 117) kX5_72 (ctX5_xOf (p := p) (by omega) (by omega) (by omega)) (gDec iX5_blackBits_ok 66 rfl) rfl rfl (by decide) rfl rfl rfl (Nat.le_of_ble_eq_true rfl) rfl (gFit_rm (by decide) (by decide)) rfl ?_
        refine go_iload_n (q := 118) (gDec iX5_blackBits_ok 67 rfl) rfl rfl rfl ?_
        refine go_imul (q := 119) (gDec iX5_blackBits_ok 68 rfl) rfl ?_
        refine go_istore (q := 121) (gDec iX5_blackBits_ok 69 rfl) (by decide) rfl ?_
        refine go_aload_n (q := 122) (gDec iX5_blackBits_ok 70 rfl) rfl rfl rfl ?_
        refine go_iload_n (q := 123) (gDec iX5_blackBits_ok 71 rfl) rfl rfl rfl ?_
        refine go_iload (q := 125) (gDec iX5_blackBits_ok 72 rfl) rfl rfl ?_
        refine go_iload (q := 127) (gDec iX5_blackBits_ok 73 rfl) rfl rfl ?_
        refine go_callV (n2 := 0) (q := 130) kX5_72 (ctX5_xOf (p := gNx P p) (by omega) (by omega) (by omega)) (gDec iX5_blackBits_ok 74 rfl) rfl rfl (by decide) rfl rfl rfl (Nat.le_of_ble_eq_true rfl) rfl (gFit_rm (by decide) (by decide)) rfl ?_
        refine go_iload_n (q := 131) (gDec iX5_blackBits_ok 75 rfl) rfl rfl rfl ?_
        refine go_imul (q := 132) (gDec iX5_blackBits_ok 76 rfl) rfl ?_
        refine go_istore (q := 134) (gDec iX5_blackBits_ok 77 rfl) (by decide) rfl ?_
        refine go_lload (q := 136) (gDec iX5_blackBits_ok 78 rfl) rfl rfl ?_
        refine go_iload (q := 138) (gDec iX5_blackBits_ok 79 rfl) rfl rfl ?_
        refine go_iload (q := 140) (gDec iX5_blackBits_ok 80 rfl) rfl rfl ?_
        refine go_icmp_le (t := 161) (q := 143) (gDec iX5_blackBits_ok 81 rfl) (by decide) rfl (fun c140 => False.elim (absurd h3 (Int32.not_lt.mpr c140))) (fun c140 => ?_)
        refine go_iload (q := 145) (gDec iX5_blackBits_ok 82 rfl) rfl rfl ?_
        refine go_iload (q := 147) (gDec iX5_blackBits_ok 83 rfl) rfl rfl ?_
        refine go_iload (q := 149) (gDec iX5_blackBits_ok 84 rfl) rfl rfl ?_
        refine go_iload (q := 151) (gDec iX5_blackBits_ok 85 rfl) rfl rfl ?_
        refine go_iload (q := 153) (gDec iX5_blackBits_ok 86 rfl) rfl rfl ?_
        refine go_iload (q := 155) (gDec iX5_blackBits_ok 87 rfl) rfl rfl ?_
        refine go_callS (n2 := 0) (q := 158) kX5_99 (ctX5_bitsBefore (n := n) hF hn) (gDec iX5_blackBits_ok 88 rfl) rfl rfl (Nat.le_of_ble_eq_true rfl) rfl (gFit_rm (by decide) (by decide)) rfl ?_
        refine go_goto (t := 176) (gDec iX5_blackBits_ok 89 rfl) (by decide) ?_
        refine go_lxor (q := 177) (gDec iX5_blackBits_ok 97 rfl) rfl ?_
        refine go_lstore (q := 179) (gDec iX5_blackBits_ok 98 rfl) (by decide) rfl ?_
        rw [show gBb σ z r F n ((g * 3 + c) * 12 + p) ((g * 3 + c) * 12 + gNx P p) a = _ from (if_neg (fun h => h1 (h.mpr h2))).trans (congrArg (a ^^^ ·) (if_pos h3))] at kk
        refine go_sub (L' := [(0, .ref (κ.2.1 + 2)), (1, .int (nI g)), (2, .int z), (3, .int row), (4, .int F), (5, .int (F + nI n)), (6, .int r), (7, .long _), (9, .int (nI c)), (10, .int (nI p))]) ⟨rfl, rfl, rfl, rfl, rfl, rfl, rfl, rfl, rfl, rfl, trivial⟩ ?_
        exact kk
      · skip
        refine go_aload_n (q := 43) (gDec iX5_blackBits_ok 25 rfl) rfl rfl rfl ?_
        refine go_iload_n (q := 44) (gDec iX5_blackBits_ok 26 rfl) rfl rfl rfl ?_
        refine go_iload (q := 46) (gDec iX5_blackBits_ok 27 rfl) rfl rfl ?_
        refine go_iload (q := 48) (gDec iX5_blackBits_ok 28 rfl) rfl rfl ?_
        refine go_callV (n2 := 0) (q := 51) kX5_90 (ctX5_nextPoint (by omega) (by omega) hP (by omega) hP2) (gDec iX5_blackBits_ok 29 rfl) rfl rfl (by decide) rfl rfl rfl (Nat.le_of_ble_eq_true rfl) rfl (gFit_rm (by decide) (by decide)) rfl ?_
        refine go_istore (q := 53) (gDec iX5_blackBits_ok 30 rfl) (by decide) rfl ?_
        refine go_aload_n (q := 54) (gDec iX5_blackBits_ok 31 rfl) rfl rfl rfl ?_
        refine go_iload_n (q := 55) (gDec iX5_blackBits_ok 32 rfl) rfl rfl rfl ?_
        refine go_iload (q := 57) (gDec iX5_blackBits_ok 33 rfl) rfl rfl ?_
        refine go_iload (q := 59) (gDec iX5_blackBits_ok 34 rfl) rfl rfl ?_
        refine go_callV (n2 := 0) (q := 62) kX5_75 (ctX5_yOf (p := p) (by omega) (by omega) (by omega)) (gDec iX5_blackBits_ok 35 rfl) rfl rfl (by decide) rfl rfl rfl (Nat.le_of_ble_eq_true rfl) rfl (gFit_rm (by decide) (by decide)) rfl ?_
        refine go_iload_n (q := 63) (gDec iX5_blackBits_ok 36 rfl) rfl rfl rfl ?_
        refine go_imul (q := 64) (gDec iX5_blackBits_ok 37 rfl) rfl ?_
        refine go_iload (q := 66) (gDec iX5_blackBits_ok 38 rfl) rfl rfl ?_
        refine go_isub (q := 67) (gDec iX5_blackBits_ok 39 rfl) rfl ?_
        refine go_istore (q := 69) (gDec iX5_blackBits_ok 40 rfl) (by decide) rfl ?_
        refine go_aload_n (q := 70) (gDec iX5_blackBits_ok 41 rfl) rfl rfl rfl ?_
        refine go_iload_n (q := 71) (gDec iX5_blackBits_ok 42 rfl) rfl rfl rfl ?_
        refine go_iload (q := 73) (gDec iX5_blackBits_ok 43 rfl) rfl rfl ?_
        refine go_iload (q := 75) (gDec iX5_blackBits_ok 44 rfl) rfl rfl ?_
        refine go_callV (n2 := 0) (q := 78) kX5_75 (ctX5_yOf (p := gNx P p) (by omega) (by omega) (by omega)) (gDec iX5_blackBits_ok 45 rfl) rfl rfl (by decide) rfl rfl rfl (Nat.le_of_ble_eq_true rfl) rfl (gFit_rm (by decide) (by decide)) rfl ?_
        refine go_iload_n (q := 79) (gDec iX5_blackBits_ok 46 rfl) rfl rfl rfl ?_
        refine go_imul (q := 80) (gDec iX5_blackBits_ok 47 rfl) rfl ?_
        refine go_iload (q := 82) (gDec iX5_blackBits_ok 48 rfl) rfl rfl ?_
        refine go_isub (q := 83) (gDec iX5_blackBits_ok 49 rfl) rfl ?_
        refine go_istore (q := 85) (gDec iX5_blackBits_ok 50 rfl) (by decide) rfl ?_
        refine go_iload (q := 87) (gDec iX5_blackBits_ok 51 rfl) rfl rfl ?_
        refine go_if_gt (t := 94) (q := 90) (gDec iX5_blackBits_ok 52 rfl) (by decide) rfl (fun c87 => ?_) (fun c87 => False.elim (c87 (Int32.not_le.mp h1)))
        refine go_iconst (v := 0) (q := 95) (gDec iX5_blackBits_ok 55 rfl) (by decide) rfl ?_
        refine go_iload (q := 97) (gDec iX5_blackBits_ok 56 rfl) rfl rfl ?_
        refine go_if_gt (t := 104) (q := 100) (gDec iX5_blackBits_ok 57 rfl) (by decide) rfl (fun c97 => False.elim (absurd c97 (Int32.not_lt.mpr h2))) (fun c97 => ?_)
        refine go_iconst (v := 1) (q := 101) (gDec iX5_blackBits_ok 58 rfl) (by decide) rfl ?_
        refine go_goto (t := 105) (gDec iX5_blackBits_ok 59 rfl) (by decide) ?_
        refine go_icmp_eq (t := 179) (q := 108) (gDec iX5_blackBits_ok 61 rfl) (by decide) rfl (fun c105 => False.elim (absurd c105 (by decide))) (fun c105 => ?_)
        refine go_aload_n (q := 109) (gDec iX5_blackBits_ok 62 rfl) rfl rfl rfl ?_
        refine go_iload_n (q := 110) (gDec iX5_blackBits_ok 63 rfl) rfl rfl rfl ?_
        refine go_iload (q := 112) (gDec iX5_blackBits_ok 64 rfl) rfl rfl ?_
        refine go_iload (q := 114) (gDec iX5_blackBits_ok 65 rfl) rfl rfl ?_
        refine go_callV (n2 := 0) (q := 117) kX5_72 (ctX5_xOf (p := p) (by omega) (by omega) (by omega)) (gDec iX5_blackBits_ok 66 rfl) rfl rfl (by decide) rfl rfl rfl (Nat.le_of_ble_eq_true rfl) rfl (gFit_rm (by decide) (by decide)) rfl ?_
        refine go_iload_n (q := 118) (gDec iX5_blackBits_ok 67 rfl) rfl rfl rfl ?_
        refine go_imul (q := 119) (gDec iX5_blackBits_ok 68 rfl) rfl ?_
        refine go_istore (q := 121) (gDec iX5_blackBits_ok 69 rfl) (by decide) rfl ?_
        refine go_aload_n (q := 122) (gDec iX5_blackBits_ok 70 rfl) rfl rfl rfl ?_
        refine go_iload_n (q := 123) (gDec iX5_blackBits_ok 71 rfl) rfl rfl rfl ?_
        refine go_iload (q := 125) (gDec iX5_blackBits_ok 72 rfl) rfl rfl ?_
        refine go_iload (q := 127) (gDec iX5_blackBits_ok 73 rfl) rfl rfl ?_
        refine go_callV (n2 := 0) (q := 130) kX5_72 (ctX5_xOf (p := gNx P p) (by omega) (by omega) (by omega)) (gDec iX5_blackBits_ok 74 rfl) rfl rfl (by decide) rfl rfl rfl (Nat.le_of_ble_eq_true rfl) rfl (gFit_rm (by decide) (by decide)) rfl ?_
        refine go_iload_n (q := 131) (gDec iX5_blackBits_ok 75 rfl) rfl rfl rfl ?_
        refine go_imul (q := 132) (gDec iX5_blackBits_ok 76 rfl) rfl ?_
        refine go_istore (q := 134) (gDec iX5_blackBits_ok 77 rfl) (by decide) rfl ?_
        refine go_lload (q := 136) (gDec iX5_blackBits_ok 78 rfl) rfl rfl ?_
        refine go_iload (q := 138) (gDec iX5_blackBits_ok 79 rfl) rfl rfl ?_
        refine go_iload (q := 140) (gDec iX5_blackBits_ok 80 rfl) rfl rfl ?_
        refine go_icmp_le (t := 161) (q := 143) (gDec iX5_blackBits_ok 81 rfl) (by decide) rfl (fun c140 => ?_) (fun c140 => False.elim (c140 (Int32.not_lt.mp h3)))
        refine go_iload (q := 163) (gDec iX5_blackBits_ok 90 rfl) rfl rfl ?_
        refine go_iload (q := 165) (gDec iX5_blackBits_ok 91 rfl) rfl rfl ?_
        refine go_iload (q := 167) (gDec iX5_blackBits_ok 92 rfl) rfl rfl ?_
        refine go_iload (q := 169) (gDec iX5_blackBits_ok 93 rfl) rfl rfl ?_
        refine go_iload (q := 171) (gDec iX5_blackBits_ok 94 rfl) rfl rfl ?_
        refine go_iload (q := 173) (gDec iX5_blackBits_ok 95 rfl) rfl rfl ?_
        refine go_callS (n2 := 0) (q := 176) kX5_99 (ctX5_bitsBefore (n := n) hF hn) (gDec iX5_blackBits_ok 96 rfl) rfl rfl (Nat.le_of_ble_eq_true rfl) rfl (gFit_rm (by decide) (by decide)) rfl ?_
        refine go_lxor (q := 177) (gDec iX5_blackBits_ok 97 rfl) rfl ?_
        refine go_lstore (q := 179) (gDec iX5_blackBits_ok 98 rfl) (by decide) rfl ?_
        rw [show gBb σ z r F n ((g * 3 + c) * 12 + p) ((g * 3 + c) * 12 + gNx P p) a = _ from (if_neg (fun h => h1 (h.mpr h2))).trans (congrArg (a ^^^ ·) (if_neg h3))] at kk
        refine go_sub (L' := [(0, .ref (κ.2.1 + 2)), (1, .int (nI g)), (2, .int z), (3, .int row), (4, .int F), (5, .int (F + nI n)), (6, .int r), (7, .long _), (9, .int (nI c)), (10, .int (nI p))]) ⟨rfl, rfl, rfl, rfl, rfl, rfl, rfl, rfl, rfl, rfl, trivial⟩ ?_
        exact kk
    · skip
      refine go_aload_n (q := 43) (gDec iX5_blackBits_ok 25 rfl) rfl rfl rfl ?_
      refine go_iload_n (q := 44) (gDec iX5_blackBits_ok 26 rfl) rfl rfl rfl ?_
      refine go_iload (q := 46) (gDec iX5_blackBits_ok 27 rfl) rfl rfl ?_
      refine go_iload (q := 48) (gDec iX5_blackBits_ok 28 rfl) rfl rfl ?_
      refine go_callV (n2 := 0) (q := 51) kX5_90 (ctX5_nextPoint (by omega) (by omega) hP (by omega) hP2) (gDec iX5_blackBits_ok 29 rfl) rfl rfl (by decide) rfl rfl rfl (Nat.le_of_ble_eq_true rfl) rfl (gFit_rm (by decide) (by decide)) rfl ?_
      refine go_istore (q := 53) (gDec iX5_blackBits_ok 30 rfl) (by decide) rfl ?_
      refine go_aload_n (q := 54) (gDec iX5_blackBits_ok 31 rfl) rfl rfl rfl ?_
      refine go_iload_n (q := 55) (gDec iX5_blackBits_ok 32 rfl) rfl rfl rfl ?_
      refine go_iload (q := 57) (gDec iX5_blackBits_ok 33 rfl) rfl rfl ?_
      refine go_iload (q := 59) (gDec iX5_blackBits_ok 34 rfl) rfl rfl ?_
      refine go_callV (n2 := 0) (q := 62) kX5_75 (ctX5_yOf (p := p) (by omega) (by omega) (by omega)) (gDec iX5_blackBits_ok 35 rfl) rfl rfl (by decide) rfl rfl rfl (Nat.le_of_ble_eq_true rfl) rfl (gFit_rm (by decide) (by decide)) rfl ?_
      refine go_iload_n (q := 63) (gDec iX5_blackBits_ok 36 rfl) rfl rfl rfl ?_
      refine go_imul (q := 64) (gDec iX5_blackBits_ok 37 rfl) rfl ?_
      refine go_iload (q := 66) (gDec iX5_blackBits_ok 38 rfl) rfl rfl ?_
      refine go_isub (q := 67) (gDec iX5_blackBits_ok 39 rfl) rfl ?_
      refine go_istore (q := 69) (gDec iX5_blackBits_ok 40 rfl) (by decide) rfl ?_
      refine go_aload_n (q := 70) (gDec iX5_blackBits_ok 41 rfl) rfl rfl rfl ?_
      refine go_iload_n (q := 71) (gDec iX5_blackBits_ok 42 rfl) rfl rfl rfl ?_
      refine go_iload (q := 73) (gDec iX5_blackBits_ok 43 rfl) rfl rfl ?_
      refine go_iload (q := 75) (gDec iX5_blackBits_ok 44 rfl) rfl rfl ?_
      refine go_callV (n2 := 0) (q := 78) kX5_75 (ctX5_yOf (p := gNx P p) (by omega) (by omega) (by omega)) (gDec iX5_blackBits_ok 45 rfl) rfl rfl (by decide) rfl rfl rfl (Nat.le_of_ble_eq_true rfl) rfl (gFit_rm (by decide) (by decide)) rfl ?_
      refine go_iload_n (q := 79) (gDec iX5_blackBits_ok 46 rfl) rfl rfl rfl ?_
      refine go_imul (q := 80) (gDec iX5_blackBits_ok 47 rfl) rfl ?_
      refine go_iload (q := 82) (gDec iX5_blackBits_ok 48 rfl) rfl rfl ?_
      refine go_isub (q := 83) (gDec iX5_blackBits_ok 49 rfl) rfl ?_
      refine go_istore (q := 85) (gDec iX5_blackBits_ok 50 rfl) (by decide) rfl ?_
      refine go_iload (q := 87) (gDec iX5_blackBits_ok 51 rfl) rfl rfl ?_
      refine go_if_gt (t := 94) (q := 90) (gDec iX5_blackBits_ok 52 rfl) (by decide) rfl (fun c87 => ?_) (fun c87 => False.elim (c87 (Int32.not_le.mp h1)))
      refine go_iconst (v := 0) (q := 95) (gDec iX5_blackBits_ok 55 rfl) (by decide) rfl ?_
      refine go_iload (q := 97) (gDec iX5_blackBits_ok 56 rfl) rfl rfl ?_
      refine go_if_gt (t := 104) (q := 100) (gDec iX5_blackBits_ok 57 rfl) (by decide) rfl (fun c97 => ?_) (fun c97 => False.elim (c97 (Int32.not_le.mp h2)))
      refine go_iconst (v := 0) (q := 105) (gDec iX5_blackBits_ok 60 rfl) (by decide) rfl ?_
      refine go_icmp_eq (t := 179) (q := 108) (gDec iX5_blackBits_ok 61 rfl) (by decide) rfl (fun c105 => ?_) (fun c105 => False.elim (c105 rfl))
      rw [show gBb σ z r F n ((g * 3 + c) * 12 + p) ((g * 3 + c) * 12 + gNx P p) a = _ from if_pos ⟨fun h => absurd h h1, fun h => absurd h h2⟩] at kk
      refine go_sub (L' := [(0, .ref (κ.2.1 + 2)), (1, .int (nI g)), (2, .int z), (3, .int row), (4, .int F), (5, .int (F + nI n)), (6, .int r), (7, .long _), (9, .int (nI c)), (10, .int (nI p))]) ⟨rfl, rfl, rfl, rfl, rfl, rfl, rfl, rfl, rfl, rfl, trivial⟩ ?_
      exact kk

set_option maxHeartbeats 4000000 in
set_option maxRecDepth 100000 in
theorem lpX5_bb2 {κ : gK} {Z : gZ} {σ : gST} {g c P n : Nat} {z row r F : Int32} (hg : g < 24) (hc : c < 3) (hP2 : P ≤ 12) (hP : σ.1 8 (g * 3 + c) = nI P) (hF : -1000 ≤ F.toInt ∧ F.toInt ≤ 1000) (hn : n ≤ 100) : ∀ (m i : Nat) (a : Int64), i + m = P → Go κ mX5_blackBits (gRm 3 0) Z 185 [(0, .ref (κ.2.1 + 2)), (1, .int (nI g)), (2, .int z), (3, .int row), (4, .int F), (5, .int (F + nI n)), (6, .int r), (7, .long (gLoop (fun p a => gBb σ z r F n ((g * 3 + c) * 12 + p) ((g * 3 + c) * 12 + gNx P p) a) i m a)), (9, .int (nI c)), (10, .int (nI P))] [] σ 0 → Go κ mX5_blackBits (gRm 3 0) Z 30 [(0, .ref (κ.2.1 + 2)), (1, .int (nI g)), (2, .int z), (3, .int row), (4, .int F), (5, .int (F + nI n)), (6, .int r), (7, .long a), (9, .int (nI c)), (10, .int (nI i))] [] σ 0 := by
  intro m
  induction m with
  | zero =>
    intro i a hi h
    have hiN : P = i := by omega
    rw [hiN] at h
    refine go_iload (q := 32) (gDec iX5_blackBits_ok 19 rfl) rfl rfl ?_
    refine go_aload_n (q := 33) (gDec iX5_blackBits_ok 20 rfl) rfl rfl rfl ?_
    refine go_iload_n (q := 34) (gDec iX5_blackBits_ok 21 rfl) rfl rfl rfl ?_
    refine go_iload (q := 36) (gDec iX5_blackBits_ok 22 rfl) rfl rfl ?_
    refine go_callV (n2 := 0) (q := 39) kX5_58 (ctX5_pointCount (by omega) (by omega)) (gDec iX5_blackBits_ok 23 rfl) rfl rfl (by decide) rfl rfl rfl (Nat.le_of_ble_eq_true rfl) rfl (gFit_rm (by decide) (by decide)) rfl ?_
    refine go_icmp_ge (t := 185) (q := 42) (gDec iX5_blackBits_ok 24 rfl) (by decide) rfl (fun c39 => ?_) (fun c39 => False.elim (c39 (by rw [hP]; exact nI_le (by omega) (by omega))))
    refine go_sub (L' := [(0, .ref (κ.2.1 + 2)), (1, .int (nI g)), (2, .int z), (3, .int row), (4, .int F), (5, .int (F + nI n)), (6, .int r), (7, .long a), (9, .int (nI c)), (10, .int (nI i))]) ⟨rfl, rfl, rfl, rfl, rfl, rfl, rfl, rfl, rfl, rfl, trivial⟩ ?_
    exact h
  | succ m ih =>
    intro i a hi h
    refine go_iload (q := 32) (gDec iX5_blackBits_ok 19 rfl) rfl rfl ?_
    refine go_aload_n (q := 33) (gDec iX5_blackBits_ok 20 rfl) rfl rfl rfl ?_
    refine go_iload_n (q := 34) (gDec iX5_blackBits_ok 21 rfl) rfl rfl rfl ?_
    refine go_iload (q := 36) (gDec iX5_blackBits_ok 22 rfl) rfl rfl ?_
    refine go_callV (n2 := 0) (q := 39) kX5_58 (ctX5_pointCount (by omega) (by omega)) (gDec iX5_blackBits_ok 23 rfl) rfl rfl (by decide) rfl rfl rfl (Nat.le_of_ble_eq_true rfl) rfl (gFit_rm (by decide) (by decide)) rfl ?_
    refine go_icmp_ge (t := 185) (q := 42) (gDec iX5_blackBits_ok 24 rfl) (by decide) rfl (fun c39 => False.elim (by rw [hP] at c39; exact nI_ge (a := i) (b := P) (by omega) (by omega) c39)) (fun c39 => ?_)
    refine go_sub (L' := [(0, .ref (κ.2.1 + 2)), (1, .int (nI g)), (2, .int z), (3, .int row), (4, .int F), (5, .int (F + nI n)), (6, .int r), (7, .long a), (9, .int (nI c)), (10, .int (nI i))]) ⟨rfl, rfl, rfl, rfl, rfl, rfl, rfl, rfl, rfl, rfl, trivial⟩ ?_
    refine lpX5_bb3 hg hc (by omega) hP2 hP hF hn ?_
    refine go_iinc (v := nI (i + 1)) (q := 182) (gDec iX5_blackBits_ok 99 rfl) rfl (nI_1 i) (by decide) rfl ?_
    refine go_goto (t := 30) (gDec iX5_blackBits_ok 100 rfl) (by decide) ?_
    refine go_sub (L' := [(0, .ref (κ.2.1 + 2)), (1, .int (nI g)), (2, .int z), (3, .int row), (4, .int F), (5, .int (F + nI n)), (6, .int r), (7, .long ((fun p a => gBb σ z r F n ((g * 3 + c) * 12 + p) ((g * 3 + c) * 12 + gNx P p) a) i a)), (9, .int (nI c)), (10, .int (nI (i + 1)))]) ⟨rfl, rfl, rfl, rfl, rfl, rfl, rfl, rfl, rfl, rfl, trivial⟩ ?_
    exact ih (i + 1) ((fun p a => gBb σ z r F n ((g * 3 + c) * 12 + p) ((g * 3 + c) * 12 + gNx P p) a) i a) (by omega) h

set_option maxHeartbeats 4000000 in
set_option maxRecDepth 100000 in
theorem lpX5_bb1 {κ : gK} {Z : gZ} {σ : gST} {g n : Nat} {z row r F : Int32} (hg : g < 24) (hW : gDW σ) (hF : -1000 ≤ F.toInt ∧ F.toInt ≤ 1000) (hn : n ≤ 100) : ∀ (m i : Nat) (a : Int64), i + m = (gNc σ g) → Go κ mX5_blackBits (gRm 3 0) Z 191 [(0, .ref (κ.2.1 + 2)), (1, .int (nI g)), (2, .int z), (3, .int row), (4, .int F), (5, .int (F + nI n)), (6, .int r), (7, .long (gLoop (fun c a => gBbC σ z r F n g c a) i m a)), (9, .int (nI (gNc σ g)))] [] σ 0 → Go κ mX5_blackBits (gRm 3 0) Z 17 [(0, .ref (κ.2.1 + 2)), (1, .int (nI g)), (2, .int z), (3, .int row), (4, .int F), (5, .int (F + nI n)), (6, .int r), (7, .long a), (9, .int (nI i))] [] σ 0 := by
  intro m
  induction m with
  | zero =>
    intro i a hi h
    have hn3 := hW.nc3 hg
    have hiN : (gNc σ g) = i := by omega
    rw [hiN] at h
    refine go_iload (q := 19) (gDec iX5_blackBits_ok 12 rfl) rfl rfl ?_
    refine go_aload_n (q := 20) (gDec iX5_blackBits_ok 13 rfl) rfl rfl rfl ?_
    refine go_iload_n (q := 21) (gDec iX5_blackBits_ok 14 rfl) rfl rfl rfl ?_
    refine go_callV (n2 := 0) (q := 24) kX5_55 (ctX5_contourCount (by omega)) (gDec iX5_blackBits_ok 15 rfl) rfl rfl (by decide) rfl rfl rfl (Nat.le_of_ble_eq_true rfl) rfl (gFit_rm (by decide) (by decide)) rfl ?_
    refine go_icmp_ge (t := 191) (q := 27) (gDec iX5_blackBits_ok 16 rfl) (by decide) rfl (fun c24 => ?_) (fun c24 => False.elim (c24 (by rw [hW.nc hg]; exact nI_le (by omega) (by omega))))
    refine go_sub (L' := [(0, .ref (κ.2.1 + 2)), (1, .int (nI g)), (2, .int z), (3, .int row), (4, .int F), (5, .int (F + nI n)), (6, .int r), (7, .long a), (9, .int (nI i))]) ⟨rfl, rfl, rfl, rfl, rfl, rfl, rfl, rfl, rfl, trivial⟩ ?_
    exact h
  | succ m ih =>
    intro i a hi h
    have hn3 := hW.nc3 hg
    refine go_iload (q := 19) (gDec iX5_blackBits_ok 12 rfl) rfl rfl ?_
    refine go_aload_n (q := 20) (gDec iX5_blackBits_ok 13 rfl) rfl rfl rfl ?_
    refine go_iload_n (q := 21) (gDec iX5_blackBits_ok 14 rfl) rfl rfl rfl ?_
    refine go_callV (n2 := 0) (q := 24) kX5_55 (ctX5_contourCount (by omega)) (gDec iX5_blackBits_ok 15 rfl) rfl rfl (by decide) rfl rfl rfl (Nat.le_of_ble_eq_true rfl) rfl (gFit_rm (by decide) (by decide)) rfl ?_
    refine go_icmp_ge (t := 191) (q := 27) (gDec iX5_blackBits_ok 16 rfl) (by decide) rfl (fun c24 => False.elim (by rw [hW.nc hg] at c24; exact nI_ge (a := i) (b := (gNc σ g)) (by omega) (by omega) c24)) (fun c24 => ?_)
    refine go_iconst (v := 0) (q := 28) (gDec iX5_blackBits_ok 17 rfl) (by decide) rfl ?_
    refine go_istore (q := 30) (gDec iX5_blackBits_ok 18 rfl) (by decide) rfl ?_
    refine go_sub (L' := [(0, .ref (κ.2.1 + 2)), (1, .int (nI g)), (2, .int z), (3, .int row), (4, .int F), (5, .int (F + nI n)), (6, .int r), (7, .long a), (9, .int (nI i)), (10, .int (nI 0))]) ⟨rfl, rfl, rfl, rfl, rfl, rfl, rfl, rfl, rfl, rfl, trivial⟩ ?_
    refine lpX5_bb2 hg (by omega) (hW.np12 hg (by omega)) (hW.np hg (by omega)) hF hn (gNp σ g i) 0 a (by omega) ?_
    refine go_iinc (v := nI (i + 1)) (q := 188) (gDec iX5_blackBits_ok 101 rfl) rfl (nI_1 i) (by decide) rfl ?_
    refine go_goto (t := 17) (gDec iX5_blackBits_ok 102 rfl) (by decide) ?_
    refine go_sub (L' := [(0, .ref (κ.2.1 + 2)), (1, .int (nI g)), (2, .int z), (3, .int row), (4, .int F), (5, .int (F + nI n)), (6, .int r), (7, .long ((fun c a => gBbC σ z r F n g c a) i a)), (9, .int (nI (i + 1)))]) ⟨rfl, rfl, rfl, rfl, rfl, rfl, rfl, rfl, rfl, trivial⟩ ?_
    exact ih (i + 1) ((fun c a => gBbC σ z r F n g c a) i a) (by omega) h

set_option maxHeartbeats 4000000 in
set_option maxRecDepth 100000 in
theorem ctX5_blackBits {κ : gK} {σ : gST} {g n : Nat} {z row F : Int32} (hg : g < 24) (hW : gDW σ) (hF : -1000 ≤ F.toInt ∧ F.toInt ≤ 1000) (hn : n ≤ 100) : gCt κ mX5_blackBits 3 [.ref (κ.2.1 + 2), .int (nI g), .int z, .int row, .int F, .int (F + nI n)] σ (.inl (some (.long (gBlack σ z ((2 * row + 1) * 500) F n g)))) σ 0 := by
  refine ct_of (by decide +kernel) rfl (Nat.le_of_ble_eq_true rfl) rfl ?_
  refine go_iconst (v := 2) (q := 1) (gDec iX5_blackBits_ok 0 rfl) (by decide) rfl ?_
  refine go_iload_n (q := 2) (gDec iX5_blackBits_ok 1 rfl) rfl rfl rfl ?_
  refine go_imul (q := 3) (gDec iX5_blackBits_ok 2 rfl) rfl ?_
  refine go_iconst (v := 1) (q := 4) (gDec iX5_blackBits_ok 3 rfl) (by decide) rfl ?_
  refine go_iadd (q := 5) (gDec iX5_blackBits_ok 4 rfl) rfl ?_
  refine go_sipush (v := 500) (q := 8) (gDec iX5_blackBits_ok 5 rfl) (by decide) rfl ?_
  refine go_imul (q := 9) (gDec iX5_blackBits_ok 6 rfl) rfl ?_
  refine go_istore (q := 11) (gDec iX5_blackBits_ok 7 rfl) (by decide) rfl ?_
  refine go_lconst (v := 0) (q := 12) (gDec iX5_blackBits_ok 8 rfl) (by decide) rfl ?_
  refine go_lstore (q := 14) (gDec iX5_blackBits_ok 9 rfl) (by decide) rfl ?_
  refine go_iconst (v := 0) (q := 15) (gDec iX5_blackBits_ok 10 rfl) (by decide) rfl ?_
  refine go_istore (q := 17) (gDec iX5_blackBits_ok 11 rfl) (by decide) rfl ?_
  refine go_sub (L' := [(0, .ref (κ.2.1 + 2)), (1, .int (nI g)), (2, .int z), (3, .int row), (4, .int F), (5, .int (F + nI n)), (6, .int ((2 * row + 1) * 500)), (7, .long 0), (9, .int (nI 0))]) ⟨rfl, rfl, rfl, rfl, rfl, rfl, rfl, rfl, rfl, trivial⟩ ?_
  have hn3 := hW.nc3 hg
  refine lpX5_bb1 hg hW hF hn (gNc σ g) 0 0 (by omega) ?_
  refine go_lload (q := 193) (gDec iX5_blackBits_ok 103 rfl) rfl rfl ?_
  exact go_lreturn (gDec iX5_blackBits_ok 104 rfl) rfl rfl rfl (by decide)
