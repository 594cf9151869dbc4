abbrev rmX2_turnLayer : Room := { frames := 1, cells := 0, slots := 0, locals := 23 }
set_option maxHeartbeats 4000000 in
set_option maxRecDepth 100000 in
theorem c_X2_turnLayer (l : Launch) (D : va_G) (cy : Nat → ClassId) (κ : Nat → Nat) (G : Gh) (p0 : Nat) (k0 : κ p0 = 3) (p1 : Nat) (k1 : κ p1 = 6) : Met l yX2_turnLayer wsX2_turnLayer rmX2_turnLayer (va_Pc [.ref p0, .ref p1] (fun U => WW D cy κ G U)) (va_Qv (fun u : Gh => u = G ∧ (True)) (fun u t => WW D cy κ u t) (AA κ)) 0 0 (AA κ) := by
  refine Met.twv (cc := cX2_turnLayer) (maxL := 2) (by decide) rfl (Nat.le_of_ble_eq_true rfl) ?_
  intro p e s m args below meth c Q hx hb hml hown hts hK hT hret ls hl
  have hl : lv_has ls 2 [(0, .ref p0), (1, .ref p1)] := hl
  have hfl12 := hts (.fieldLink RX2 12 "PlyPlates$Flat" "left" "LPlyPlates$Left;") (by decide +kernel)
  have hin2 : ∀ w ∈ u_ws RX2 TX2 13, w ∈ wsX2_turnLayer := by decide +kernel
  have hfl55 := hts (.fieldLink RX2 55 "PlyPlates$Flat" "stuffs" "[LPlyPlates$Stuff;") (by decide +kernel)
  have hfl63 := hts (.fieldLink RX2 63 "PlyPlates$Layer" "stuffNumber" "I") (by decide +kernel)
  have hin5 : ∀ w ∈ u_ws RX5 TX5 4, w ∈ wsX2_turnLayer := by decide +kernel
  have hfl68 := hts (.fieldLink RX2 68 "PlyPlates$Layer" "broken" "I") (by decide +kernel)
  have hfl75 := hts (.fieldLink RX2 75 "PlyPlates$Layer" "way" "I") (by decide +kernel)
  have hfl18 := hts (.fieldLink RX2 18 "PlyPlates$Flat" "turned" "[I") (by decide +kernel)
  have main : ∀ (H : Heap) (locs : List Loc), TW D cy κ G H → va_S (AA κ) s.heap H locs → W p l e rmX2_turnLayer s m args below meth c H locs 0 0 Q (F0 m 0 ls []) := by
    intro H locs hT hS
    refine lv_aload_n hx hb dX2_turnLayer_0 rfl (lv_at hl 0 rfl) ?_
    refine gf_2_1 hx hb hts hin2 hown hK hT k0 hfl12 dX2_turnLayer_1 (fun a1 ka1 fva1 => ?_)
    refine lv_aload_n hx hb dX2_turnLayer_4 rfl (lv_at hl 0 rfl) ?_
    refine gf_2_0 hx hb hts hin2 hown hK hT k0 hfl55 dX2_turnLayer_5 (fun a2 ka2 fva2 => ?_)
    refine lv_aload_n hx hb dX2_turnLayer_8 rfl (lv_at hl 1 rfl) ?_
    refine gf_5_0 hx hb hts hin5 hown hK hT k1 hfl63 dX2_turnLayer_9 (fun x3 kx3 fvx3 => ?_)
    refine tw_ra (K := 24) (t := 4) (ty := .object RX9) (n := 3) (P := fun b => κ b = 10) hx hb hK hT ka2 (by decide) rfl rfl rfl rfl (by omega) rfl dX2_turnLayer_12 (fun a4 ka4 fva4 => ?_)
    refine lv_aload_n hx hb dX2_turnLayer_13 rfl (lv_at hl 1 rfl) ?_
    refine gf_5_3 hx hb hts hin5 hown hK hT k1 hfl68 dX2_turnLayer_14 (fun x5 kx5 fvx5 => ?_)
    refine tw_Vv (q := (RX6, TX6, 4)) (As := [.ref a4, .int x5]) (rest := []) ⟨hx, hb, hml, hown, hts⟩ (c_X6_become l D cy κ G a1 ka1 a4 ka4 x5) (cwV 2 hts gX2_turnLayer_X6_become rfl rfl rfl (by decide +kernel) ⟨Nat.le_of_ble_eq_true rfl, Nat.le_of_ble_eq_true rfl⟩) hK hT hS ka1 (by decide) rfl rfl hl.1 rfl (Nat.le_of_ble_eq_true rfl) dX2_turnLayer_17 ⟨Nat.zero_le _, Nat.zero_le _⟩ (fun u7 H locs hpu7 hT hS => ?_)
    obtain ⟨huu7, qu7⟩ := hpu7
    rw [huu7] at hT
    refine lv_aload_n hx hb dX2_turnLayer_20 rfl (lv_at hl 0 rfl) ?_
    refine gf_2_1 hx hb hts hin2 hown hK hT k0 hfl12 dX2_turnLayer_21 (fun a8 ka8 fva8 => ?_)
    refine lv_aload_n hx hb dX2_turnLayer_24 rfl (lv_at hl 1 rfl) ?_
    refine gf_5_1 hx hb hts hin5 hown hK hT k1 hfl75 dX2_turnLayer_25 (fun x9 kx9 fvx9 => ?_)
    refine lv_aload_n hx hb dX2_turnLayer_28 rfl (lv_at hl 0 rfl) ?_
    refine gf_2_2 hx hb hts hin2 hown hK hT k0 hfl18 dX2_turnLayer_29 (fun a10 ka10 fva10 => ?_)
    refine tw_Vv (q := (RX6, TX6, 4)) (As := [.int x9, .ref a10]) (rest := []) ⟨hx, hb, hml, hown, hts⟩ (c_X6_turn l D cy κ G a8 ka8 x9 a10 ka10) (cwV 2 hts gX2_turnLayer_X6_turn rfl rfl rfl (by decide +kernel) ⟨Nat.le_of_ble_eq_true rfl, Nat.le_of_ble_eq_true rfl⟩) hK hT hS ka8 (by decide) rfl rfl hl.1 rfl (Nat.le_of_ble_eq_true rfl) dX2_turnLayer_32 ⟨Nat.zero_le _, Nat.zero_le _⟩ (fun u12 H locs hpu12 hT hS => ?_)
    obtain ⟨huu12, qu12⟩ := hpu12
    rw [huu12] at hT
    exact hret H locs ls 35 G dX2_turnLayer_35 ⟨rfl, trivial⟩ hT hS
  exact main s.heap [] hT va_S.rf

abbrev rmX2_turnedNumber : Room := { frames := 2, cells := 0, slots := 0, locals := 44 }
set_option maxHeartbeats 4000000 in
set_option maxRecDepth 100000 in
theorem c_X2_turnedNumber (l : Launch) (D : va_G) (cy : Nat → ClassId) (κ : Nat → Nat) (G : Gh) (p0 : Nat) (k0 : κ p0 = 3) (p1 : Nat) (k1 : κ p1 = 6) (p2 : Int32) (q2 : 0 ≤ p2.toInt ∧ p2.toInt ≤ 5) : Met l yX2_turnedNumber wsX2_turnedNumber rmX2_turnedNumber (va_Pc [.ref p0, .ref p1, .int p2] (fun U => WW D cy κ G U)) (va_Qi (fun (r : Int32) (u : Gh) => u = G ∧ (True)) (fun u t => WW D cy κ u t) (AA κ)) 0 0 (AA κ) := by
  refine Met.twi (cc := cX2_turnedNumber) (maxL := 3) (by decide) rfl (Nat.le_of_ble_eq_true rfl) ?_
  intro p e s m args below meth c Q hx hb hml hown hts hK hT hret ls hl
  have hl : lv_has ls 3 [(0, .ref p0), (1, .ref p1), (2, .int p2)] := hl
  have hfl18 := hts (.fieldLink RX2 18 "PlyPlates$Flat" "turned" "[I") (by decide +kernel)
  have hin2 : ∀ w ∈ u_ws RX2 TX2 13, w ∈ wsX2_turnedNumber := by decide +kernel
  have main : ∀ (H : Heap) (locs : List Loc), TW D cy κ G H → va_S (AA κ) s.heap H locs → W p l e rmX2_turnedNumber s m args below meth c H locs 0 0 Q (F0 m 0 ls []) := by
    intro H locs hT hS
    refine lv_aload_n hx hb dX2_turnedNumber_0 rfl (lv_at hl 0 rfl) ?_
    refine lv_aload_n hx hb dX2_turnedNumber_1 rfl (lv_at hl 1 rfl) ?_
    refine tw_Vv (q := (RX2, TX2, 13)) (As := [.ref p1]) (rest := []) ⟨hx, hb, hml, hown, hts⟩ (c_X2_turnLayer l D cy κ G p0 k0 p1 k1) (cwV 1 hts gX2_turnedNumber_X2_turnLayer rfl rfl rfl (by decide +kernel) ⟨Nat.le_of_ble_eq_true rfl, Nat.le_of_ble_eq_true rfl⟩) hK hT hS k0 (by decide) rfl rfl hl.1 rfl (Nat.le_of_ble_eq_true rfl) dX2_turnedNumber_2 ⟨Nat.zero_le _, Nat.zero_le _⟩ (fun u2 H locs hpu2 hT hS => ?_)
    obtain ⟨huu2, qu2⟩ := hpu2
    rw [huu2] at hT
    refine lv_aload_n hx hb dX2_turnedNumber_5 rfl (lv_at hl 0 rfl) ?_
    refine gf_2_2 hx hb hts hin2 hown hK hT k0 hfl18 dX2_turnedNumber_6 (fun a3 ka3 fva3 => ?_)
    refine lv_iload_n hx hb dX2_turnedNumber_9 rfl (lv_at hl 2 rfl) ?_
    refine tw_ia (K := 1006) (n := 6) (P := fun _ => True) hx hb hK hT ka3 (by decide) rfl rfl (by omega) rfl dX2_turnedNumber_10 (fun x4 _ fvx4 => ?_)
    exact hret H locs ls 11 x4 G dX2_turnedNumber_11 ⟨rfl, trivial⟩ hT hS
  exact main s.heap [] hT va_S.rf

abbrev rmX2_weightOf : Room := { frames := 0, cells := 0, slots := 0, locals := 0 }
set_option maxHeartbeats 4000000 in
set_option maxRecDepth 100000 in
theorem c_X2_weightOf (l : Launch) (D : va_G) (cy : Nat → ClassId) (κ : Nat → Nat) (G : Gh) (p0 : Int32) (p1 : Int32) (p2 : Int64) (p3 : Int64) : Met l yX2_weightOf wsX2_weightOf rmX2_weightOf (va_Pc [.int p0, .int p1, .long p2, .long p3] (fun U => WW D cy κ G U)) (va_Ql (fun (r : Int64) (u : Gh) => u = G ∧ (True)) (fun u t => WW D cy κ u t) (AA κ)) 0 0 (AA κ) := by
  refine Met.twl (cc := cX2_weightOf) (maxL := 6) (by decide) rfl (Nat.le_of_ble_eq_true rfl) ?_
  intro p e s m args below meth c Q hx hb hml hown hts hK hT hret ls hl
  have hl : lv_has ls 6 [(0, .int p0), (1, .int p1), (2, .long p2), (4, .long p3)] := hl
  have hc1 : (1 : Int32).toInt = 1 := rfl
  have main : ∀ (H : Heap) (locs : List Loc), TW D cy κ G H → va_S (AA κ) s.heap H locs → W p l e rmX2_weightOf s m args below meth c H locs 0 0 Q (F0 m 0 ls []) := by
    intro H locs hT hS
    refine lv_iload_n hx hb dX2_weightOf_0 rfl (lv_at hl 0 rfl) ?_
    refine tb_if_ne (tgt := 7) hx hb dX2_weightOf_1 (by decide) (fun c1 => ?_) (fun c1 => ?_)
    · skip
      refine lv_iload_n hx hb dX2_weightOf_7 rfl (lv_at hl 0 rfl) ?_
      refine lv_iconst (v := (1 : Int32)) hx hb dX2_weightOf_8 (by decide) ?_
      refine tb_icmp_ne (tgt := 22) hx hb dX2_weightOf_9 (by decide) (fun c2 => ?_) (fun c2 => ?_)
      · skip
        refine lv_lload hx hb dX2_weightOf_22 (lv_at hl 3 rfl) ?_
        refine lv_lload hx hb dX2_weightOf_24 (lv_at hl 3 rfl) ?_
        refine lv_lmul hx hb dX2_weightOf_26 ?_
        refine lv_topl (fun y3 ey3 => ?_)
        refine lv_lload hx hb dX2_weightOf_27 (lv_at hl 3 rfl) ?_
        refine lv_lmul hx hb dX2_weightOf_29 ?_
        refine lv_topl (fun y4 ey4 => ?_)
        refine lv_lload_n hx hb dX2_weightOf_30 rfl (lv_at hl 2 rfl) ?_
        refine lv_lload_n hx hb dX2_weightOf_31 rfl (lv_at hl 2 rfl) ?_
        refine lv_lmul hx hb dX2_weightOf_32 ?_
        refine lv_topl (fun y5 ey5 => ?_)
        refine lv_lload_n hx hb dX2_weightOf_33 rfl (lv_at hl 2 rfl) ?_
        refine lv_lmul hx hb dX2_weightOf_34 ?_
        refine lv_topl (fun y6 ey6 => ?_)
        refine lv_lsub hx hb dX2_weightOf_35 ?_
        refine lv_topl (fun y7 ey7 => ?_)
        exact hret H locs ls 36 y7 G dX2_weightOf_36 ⟨rfl, trivial⟩ hT hS
      · skip
        refine lv_lload hx hb dX2_weightOf_12 (lv_at hl 3 rfl) ?_
        refine lv_lload hx hb dX2_weightOf_14 (lv_at hl 3 rfl) ?_
        refine lv_lmul hx hb dX2_weightOf_16 ?_
        refine lv_topl (fun y8 ey8 => ?_)
        refine lv_lload_n hx hb dX2_weightOf_17 rfl (lv_at hl 2 rfl) ?_
        refine lv_lload_n hx hb dX2_weightOf_18 rfl (lv_at hl 2 rfl) ?_
        refine lv_lmul hx hb dX2_weightOf_19 ?_
        refine lv_topl (fun y9 ey9 => ?_)
        refine lv_lsub hx hb dX2_weightOf_20 ?_
        refine lv_topl (fun y10 ey10 => ?_)
        exact hret H locs ls 21 y10 G dX2_weightOf_21 ⟨rfl, trivial⟩ hT hS
    · skip
      refine lv_iload_n hx hb dX2_weightOf_4 rfl (lv_at hl 1 rfl) ?_
      refine lv_i2l hx hb dX2_weightOf_5 rfl ?_
      refine lv_topl (fun y11 ey11 => ?_)
      have ty11 : y11.toInt = p1.toInt := by rw [ey11]; exact Int32.toInt_toInt64 p1
      exact hret H locs ls 6 y11 G dX2_weightOf_6 ⟨rfl, trivial⟩ hT hS
  exact main s.heap [] hT va_S.rf

abbrev rmX2_sum : Room := { frames := 2, cells := 0, slots := 0, locals := 44 }
set_option maxHeartbeats 4000000 in
set_option maxRecDepth 100000 in
theorem c_X2_sum (l : Launch) (D : va_G) (cy : Nat → ClassId) (κ : Nat → Nat) (G : Gh) (p0 : Nat) (k0 : κ p0 = 3) (p1 : Nat) (k1 : κ p1 = 8) (p2 : Int32) : Met l yX2_sum wsX2_sum rmX2_sum (va_Pc [.ref p0, .ref p1, .int p2] (fun U => WW D cy κ G U)) (va_Qv (fun u : Gh => u = G ∧ (True)) (fun u t => WW D cy κ u t) (AA κ)) 0 0 (AA κ) := by
  refine Met.twv (cc := cX2_sum) (maxL := 12) (by decide) rfl (Nat.le_of_ble_eq_true rfl) ?_
  intro p e s m args below meth c Q hx hb hml hown hts hK hT hret ls hl
  have hl : lv_has ls 12 [(0, .ref p0), (1, .ref p1), (2, .int p2)] := hl
  have hfl26 := hts (.fieldLink RX2 26 "PlyPlates$Flat" "sums" "[J") (by decide +kernel)
  have hin2 : ∀ w ∈ u_ws RX2 TX2 13, w ∈ wsX2_sum := by decide +kernel
  have hlc0 : (0 : Int64).toInt = 0 := rfl
  have hc0 : (0 : Int32).toInt = 0 := rfl
  have hfl94 := hts (.fieldLink RX2 94 "PlyPlates$Plate" "size" "I") (by decide +kernel)
  have hin7 : ∀ w ∈ u_ws RX7 TX7 2, w ∈ wsX2_sum := by decide +kernel
  have hfl97 := hts (.fieldLink RX2 97 "PlyPlates$Plate" "layers" "[LPlyPlates$Layer;") (by decide +kernel)
  have hkl101 := hts (.constantLong RX2 101 (2)) (by decide +kernel)
  have hlk101 : (2 : Int64).toInt = 2 := rfl
  have hfl103 := hts (.fieldLink RX2 103 "PlyPlates$Layer" "thick" "I") (by decide +kernel)
  have hin5 : ∀ w ∈ u_ws RX5 TX5 4, w ∈ wsX2_sum := by decide +kernel
  have hc6 : (6 : Int32).toInt = 6 := rfl
  have hc1 : (1 : Int32).toInt = 1 := rfl
  have hfl18 := hts (.fieldLink RX2 18 "PlyPlates$Flat" "turned" "[I") (by decide +kernel)
  have main : ∀ (H : Heap) (locs : List Loc), TW D cy κ G H → va_S (AA κ) s.heap H locs → W p l e rmX2_sum s m args below meth c H locs 0 0 Q (F0 m 0 ls []) := by
    intro H locs hT hS
    refine lv_aload_n hx hb dX2_sum_0 rfl (lv_at hl 0 rfl) ?_
    refine gf_2_4 hx hb hts hin2 hown hK hT k0 hfl26 dX2_sum_1 (fun a1 ka1 fva1 => ?_)
    refine lv_lconst (v := 0) hx hb dX2_sum_4 (by decide) ?_
    refine tw_Sv (As := [.ref a1, .long (0 : Int64)]) (rest := []) ⟨hx, hb, hml, hown, hts⟩ (c_J7_fill_d0a16_2006 l D cy κ G a1 ka1 (0 : Int64)) (va_cwS 2 hts gX2_sum_J7_fill_d0a16 rfl rfl rfl (by decide +kernel) ⟨Nat.le_of_ble_eq_true rfl, Nat.le_of_ble_eq_true rfl⟩) hK hT hS rfl hl.1 rfl (Nat.le_of_ble_eq_true rfl) dX2_sum_5 ⟨Nat.zero_le _, Nat.zero_le _⟩ (fun u3 H locs hpu3 hT hS => ?_)
    obtain ⟨huu3, qu3⟩ := hpu3
    rw [huu3] at hT
    refine lv_aload_n hx hb dX2_sum_8 rfl (lv_at hl 1 rfl) ?_
    refine tw_Vi (q := (RX7, TX7, 2)) (As := []) (rest := []) ⟨hx, hb, hml, hown, hts⟩ (c_X7_thickness l D cy κ G p1 k1) (cwV 0 hts gX2_sum_X7_thickness rfl rfl rfl (by decide +kernel) ⟨Nat.le_of_ble_eq_true rfl, Nat.le_of_ble_eq_true rfl⟩) hK hT hS k1 (by decide) rfl rfl hl.1 rfl (Nat.le_of_ble_eq_true rfl) dX2_sum_9 ⟨Nat.zero_le _, Nat.zero_le _⟩ (fun x4 u5 H locs hpu5 hT hS => ?_)
    obtain ⟨huu5, qu5⟩ := hpu5
    rw [huu5] at hT
    refine lv_ineg hx hb dX2_sum_12 ?_
    refine lv_topi (fun x6 _ => ?_)
    refine lv_i2l hx hb dX2_sum_13 rfl ?_
    refine lv_topl (fun y7 ey7 => ?_)
    have ty7 : y7.toInt = x6.toInt := by rw [ey7]; exact Int32.toInt_toInt64 x6
    refine lv_lstore_n (lv' := [(3, .long y7), (0, .ref p0), (1, .ref p1), (2, .int p2)]) hx hb dX2_sum_14 rfl hl (by decide) rfl (fun ls hl => ?_)
    refine lv_iconst (v := (0 : Int32)) hx hb dX2_sum_15 (by decide) ?_
    refine lv_istore (lv' := [(5, .int (0 : Int32)), (3, .long y7), (0, .ref p0), (1, .ref p1), (2, .int p2)]) hx hb dX2_sum_16 hl (by decide) rfl (fun ls hl => ?_)
    have L18 : ∀ (nn : Nat) (H : Heap) (locs : List Loc) (ls : Array Slot) (x8 : Int32) (y9 : Int64), (nn = (2147483647 - x8.toInt).toNat) → (TW D cy κ G H) → (va_S (AA κ) s.heap H locs) → (lv_has ls 12 [(5, .int x8), (3, .long y9), (0, .ref p0), (1, .ref p1), (2, .int p2)]) → (0 ≤ x8.toInt ∧ x8.toInt ≤ 12) → W p l e rmX2_sum s m args below meth c H locs 0 0 Q (F0 m 18 ls []) := by
      intro nn
      induction nn using Nat.strongRecOn with
      | _ nn ih18 =>
        intro H locs ls x8 y9 hnn hT hS hl fL18_0
        refine lv_iload hx hb dX2_sum_18 (lv_at hl 0 rfl) ?_
        refine lv_aload_n hx hb dX2_sum_20 rfl (lv_at hl 3 rfl) ?_
        refine gf_7_1 hx hb hts hin7 hown hK hT k1 hfl94 dX2_sum_21 (fun x10 kx10 fvx10 => ?_)
        have gx10 := congrArg Int32.toInt kx10.1
        refine tb_icmp_ge (tgt := 116) hx hb dX2_sum_24 (by decide) (fun c11 => ?_) (fun c11 => ?_)
        · skip
          exact hret H locs ls 116 G dX2_sum_116 ⟨rfl, trivial⟩ hT hS
        · skip
          refine lv_aload_n hx hb dX2_sum_27 rfl (lv_at hl 3 rfl) ?_
          refine gf_7_0 hx hb hts hin7 hown hK hT k1 hfl97 dX2_sum_28 (fun a12 ka12 fva12 => ?_)
          refine lv_iload hx hb dX2_sum_31 (lv_at hl 0 rfl) ?_
          refine tw_ra (K := 29) (t := 2) (ty := .object RX5) (n := 12) (P := fun b => κ b = 6) hx hb hK hT ka12 (by decide) rfl rfl rfl rfl (by omega) rfl dX2_sum_33 (fun a13 ka13 fva13 => ?_)
          refine lv_astore (lv' := [(6, .ref a13), (5, .int x8), (3, .long y9), (0, .ref p0), (1, .ref p1), (2, .int p2)]) hx hb dX2_sum_34 hl (by decide) rfl (fun ls hl => ?_)
          refine lv_lload_n hx hb dX2_sum_36 rfl (lv_at hl 2 rfl) ?_
          refine lv_ldc2 hx hb hown hkl101 dX2_sum_37 ?_
          refine lv_aload hx hb dX2_sum_40 (lv_at hl 0 rfl) ?_
          refine gf_5_2 hx hb hts hin5 hown hK hT ka13 hfl103 dX2_sum_42 (fun x14 kx14 fvx14 => ?_)
          refine lv_i2l hx hb dX2_sum_45 rfl ?_
          refine lv_topl (fun y15 ey15 => ?_)
          have ty15 : y15.toInt = x14.toInt := by rw [ey15]; exact Int32.toInt_toInt64 x14
          refine lv_lmul hx hb dX2_sum_46 ?_
          refine lv_topl (fun y16 ey16 => ?_)
          refine lv_ladd hx hb dX2_sum_47 ?_
          refine lv_topl (fun y17 ey17 => ?_)
          refine lv_lstore (lv' := [(7, .long y17), (6, .ref a13), (5, .int x8), (3, .long y9), (0, .ref p0), (1, .ref p1), (2, .int p2)]) hx hb dX2_sum_48 hl (by decide) rfl (fun ls hl => ?_)
          refine lv_aload_n hx hb dX2_sum_50 rfl (lv_at hl 4 rfl) ?_
          refine lv_aload hx hb dX2_sum_51 (lv_at hl 1 rfl) ?_
          refine tw_Vv (q := (RX2, TX2, 13)) (As := [.ref a13]) (rest := []) ⟨hx, hb, hml, hown, hts⟩ (c_X2_turnLayer l D cy κ G p0 k0 a13 ka13) (cwV 1 hts gX2_sum_X2_turnLayer rfl rfl rfl (by decide +kernel) ⟨Nat.le_of_ble_eq_true rfl, Nat.le_of_ble_eq_true rfl⟩) hK hT hS k0 (by decide) rfl rfl hl.1 rfl (Nat.le_of_ble_eq_true rfl) dX2_sum_53 ⟨Nat.zero_le _, Nat.zero_le _⟩ (fun u19 H locs hpu19 hT hS => ?_)
          obtain ⟨huu19, qu19⟩ := hpu19
          rw [huu19] at hT
          refine lv_iload_n hx hb dX2_sum_56 rfl (lv_at hl 6 rfl) ?_
          refine lv_aload hx hb dX2_sum_57 (lv_at hl 1 rfl) ?_
          refine gf_5_2 hx hb hts hin5 hown hK hT ka13 hfl103 dX2_sum_59 (fun x20 kx20 fvx20 => ?_)
          refine lv_lload_n hx hb dX2_sum_62 rfl (lv_at hl 3 rfl) ?_
          refine lv_lload hx hb dX2_sum_63 (lv_at hl 0 rfl) ?_
          refine tw_Sl (As := [.int p2, .int x20, .long y9, .long y17]) (rest := []) ⟨hx, hb, hml, hown, hts⟩ (c_X2_weightOf l D cy κ G p2 x20 y9 y17) (va_cwS 4 hts gX2_sum_X2_weightOf rfl rfl rfl (by decide +kernel) ⟨Nat.le_of_ble_eq_true rfl, Nat.le_of_ble_eq_true rfl⟩) hK hT hS rfl hl.1 rfl (Nat.le_of_ble_eq_true rfl) dX2_sum_65 ⟨Nat.zero_le _, Nat.zero_le _⟩ (fun y21 u22 H locs hpu22 hT hS => ?_)
          obtain ⟨huu22, qu22⟩ := hpu22
          rw [huu22] at hT
          refine lv_lstore (lv' := [(9, .long y21), (7, .long y17), (6, .ref a13), (5, .int x8), (3, .long y9), (0, .ref p0), (1, .ref p1), (2, .int p2)]) hx hb dX2_sum_68 hl (by decide) rfl (fun ls hl => ?_)
          refine lv_iconst (v := (0 : Int32)) hx hb dX2_sum_70 (by decide) ?_
          refine lv_istore (lv' := [(11, .int (0 : Int32)), (9, .long y21), (7, .long y17), (6, .ref a13), (5, .int x8), (3, .long y9), (0, .ref p0), (1, .ref p1), (2, .int p2)]) hx hb dX2_sum_71 hl (by decide) rfl (fun ls hl => ?_)
          have L73 : ∀ (nn : Nat) (H : Heap) (locs : List Loc) (ls : Array Slot) (x23 : Int32), (nn = (2147483647 - x23.toInt).toNat) → (TW D cy κ G H) → (va_S (AA κ) s.heap H locs) → (lv_has ls 12 [(11, .int x23), (9, .long y21), (7, .long y17), (6, .ref a13), (5, .int x8), (3, .long y9), (0, .ref p0), (1, .ref p1), (2, .int p2)]) → (0 ≤ x23.toInt ∧ x23.toInt ≤ 6) → W p l e rmX2_sum s m args below meth c H locs 0 0 Q (F0 m 73 ls []) := by
            intro nn
            induction nn using Nat.strongRecOn with
            | _ nn ih73 =>
              intro H locs ls x23 hnn hT hS hl fL73_0
              refine lv_iload hx hb dX2_sum_73 (lv_at hl 0 rfl) ?_
              refine lv_bipush (v := (6 : Int32)) hx hb dX2_sum_75 (by decide) ?_
              refine tb_icmp_ge (tgt := 107) hx hb dX2_sum_77 (by decide) (fun c24 => ?_) (fun c24 => ?_)
              · skip
                refine lv_lload hx hb dX2_sum_107 (lv_at hl 2 rfl) ?_
                refine lv_lstore_n (lv' := [(3, .long y17), (11, .int x23), (9, .long y21), (7, .long y17), (6, .ref a13), (5, .int x8), (0, .ref p0), (1, .ref p1), (2, .int p2)]) hx hb dX2_sum_109 rfl hl (by decide) rfl (fun ls hl => ?_)
                obtain ⟨x25, ex25⟩ : ∃ z : Int32, z = x8 + (1 : Int32) := ⟨_, rfl⟩
                refine lv_iinc (v := x25) (lv' := [(5, .int x25), (3, .long y17), (11, .int x23), (9, .long y21), (7, .long y17), (6, .ref a13), (0, .ref p0), (1, .ref p1), (2, .int p2)]) hx hb dX2_sum_110 hl (k := 5) rfl (by rw [ex25]; rfl) (by decide) rfl (fun ls hl => ?_)
                have tx25 : x25.toInt = x8.toInt + 1 := by rw [ex25, ti_add (by have := i32b x8; have := i32b x23; have := i32b p2; omega), hc1]
                refine lv_goto (tgt := 18) hx hb dX2_sum_113 (by decide) ?_
                exact ih18 ((2147483647 - x25.toInt).toNat) (by have := i32b x25; have := i32b x23; have := i32b p2; omega) H locs ls x25 y17 rfl hT hS (lv_sub hl [0, 1, 6, 7, 8] rfl) (by omega)
              · skip
                refine lv_aload_n hx hb dX2_sum_80 rfl (lv_at hl 6 rfl) ?_
                refine gf_2_4 hx hb hts hin2 hown hK hT k0 hfl26 dX2_sum_81 (fun a26 ka26 fva26 => ?_)
                refine lv_iload hx hb dX2_sum_84 (lv_at hl 0 rfl) ?_
                refine lv_dup2_11 hx hb dX2_sum_86 rfl rfl ?_
                refine tw_la (K := 2006) (n := 6) (P := fun _ => True) hx hb hK hT ka26 (by decide) rfl rfl (by omega) rfl dX2_sum_87 (fun y27 _ fvy27 => ?_)
                refine lv_aload_n hx hb dX2_sum_88 rfl (lv_at hl 6 rfl) ?_
                refine gf_2_2 hx hb hts hin2 hown hK hT k0 hfl18 dX2_sum_89 (fun a28 ka28 fva28 => ?_)
                refine lv_iload hx hb dX2_sum_92 (lv_at hl 0 rfl) ?_
                refine tw_ia (K := 1006) (n := 6) (P := fun _ => True) hx hb hK hT ka28 (by decide) rfl rfl (by omega) rfl dX2_sum_94 (fun x29 _ fvx29 => ?_)
                refine lv_i2l hx hb dX2_sum_95 rfl ?_
                refine lv_topl (fun y30 ey30 => ?_)
                have ty30 : y30.toInt = x29.toInt := by rw [ey30]; exact Int32.toInt_toInt64 x29
                refine lv_lload hx hb dX2_sum_96 (lv_at hl 1 rfl) ?_
                refine lv_lmul hx hb dX2_sum_98 ?_
                refine lv_topl (fun y31 ey31 => ?_)
                refine lv_ladd hx hb dX2_sum_99 ?_
                refine lv_topl (fun y32 ey32 => ?_)
                refine tw_las (K := 2006) (n := 6) (P := fun _ => True) hx hb hK hT hS ka26 (by decide) rfl rfl (by omega) rfl trivial dX2_sum_100 (fun H locs hT hS hq => ?_)
                obtain ⟨x33, ex33⟩ : ∃ z : Int32, z = x23 + (1 : Int32) := ⟨_, rfl⟩
                refine lv_iinc (v := x33) (lv' := [(11, .int x33), (9, .long y21), (7, .long y17), (6, .ref a13), (5, .int x8), (3, .long y9), (0, .ref p0), (1, .ref p1), (2, .int p2)]) hx hb dX2_sum_101 hl (k := 0) rfl (by rw [ex33]; rfl) (by decide) rfl (fun ls hl => ?_)
                have tx33 : x33.toInt = x23.toInt + 1 := by rw [ex33, ti_add (by have := i32b x23; have := i32b x8; have := i32b p2; omega), hc1]
                refine lv_goto (tgt := 73) hx hb dX2_sum_104 (by decide) ?_
                exact ih73 ((2147483647 - x33.toInt).toNat) (by have := i32b x33; have := i32b x8; have := i32b p2; omega) H locs ls x33 rfl hT hS (lv_sub hl [0, 1, 2, 3, 4, 5, 6, 7, 8] rfl) (by omega)
          exact L73 _ H locs ls (0 : Int32) rfl hT hS (lv_sub hl [0, 1, 2, 3, 4, 5, 6, 7, 8] rfl) (by omega)
    exact L18 _ H locs ls (0 : Int32) y7 rfl hT hS (lv_sub hl [0, 1, 2, 3, 4] rfl) (by omega)
  exact main s.heap [] hT va_S.rf

abbrev rmX2_isAnySumLeft : Room := { frames := 0, cells := 0, slots := 0, locals := 0 }
set_option maxHeartbeats 4000000 in
set_option maxRecDepth 100000 in
theorem c_X2_isAnySumLeft (l : Launch) (D : va_G) (cy : Nat → ClassId) (κ : Nat → Nat) (G : Gh) (p0 : Nat) (k0 : κ p0 = 3) : Met l yX2_isAnySumLeft wsX2_isAnySumLeft rmX2_isAnySumLeft (va_Pc [.ref p0] (fun U => WW D cy κ G U)) (va_Qi (fun (r : Int32) (u : Gh) => u = G ∧ (0 ≤ r.toInt ∧ r.toInt ≤ 1)) (fun u t => WW D cy κ u t) (AA κ)) 0 0 (AA κ) := by
  refine Met.twz (cc := cX2_isAnySumLeft) (maxL := 2) (by decide) rfl (Nat.le_of_ble_eq_true rfl) ?_
  intro p e s m args below meth c Q hx hb hml hown hts hK hT hret ls hl
  have hl : lv_has ls 2 [(0, .ref p0)] := hl
  have hc0 : (0 : Int32).toInt = 0 := rfl
  have hc6 : (6 : Int32).toInt = 6 := rfl
  have hfl26 := hts (.fieldLink RX2 26 "PlyPlates$Flat" "sums" "[J") (by decide +kernel)
  have hin2 : ∀ w ∈ u_ws RX2 TX2 13, w ∈ wsX2_isAnySumLeft := by decide +kernel
  have hlc0 : (0 : Int64).toInt = 0 := rfl
  have hc1 : (1 : Int32).toInt = 1 := rfl
  have main : ∀ (H : Heap) (locs : List Loc), TW D cy κ G H → va_S (AA κ) s.heap H locs → W p l e rmX2_isAnySumLeft s m args below meth c H locs 0 0 Q (F0 m 0 ls []) := by
    intro H locs hT hS
    refine lv_iconst (v := (0 : Int32)) hx hb dX2_isAnySumLeft_0 (by decide) ?_
    refine lv_istore_n (lv' := [(1, .int (0 : Int32)), (0, .ref p0)]) hx hb dX2_isAnySumLeft_1 rfl hl (by decide) rfl (fun ls hl => ?_)
    have L2 : ∀ (nn : Nat) (H : Heap) (locs : List Loc) (ls : Array Slot) (x1 : Int32), (nn = (2147483647 - x1.toInt).toNat) → (TW D cy κ G H) → (va_S (AA κ) s.heap H locs) → (lv_has ls 2 [(1, .int x1), (0, .ref p0)]) → (0 ≤ x1.toInt ∧ x1.toInt ≤ 6) → W p l e rmX2_isAnySumLeft s m args below meth c H locs 0 0 Q (F0 m 2 ls []) := by
      intro nn
      induction nn using Nat.strongRecOn with
      | _ nn ih2 =>
        intro H locs ls x1 hnn hT hS hl fL2_0
        refine lv_iload_n hx hb dX2_isAnySumLeft_2 rfl (lv_at hl 0 rfl) ?_
        refine lv_bipush (v := (6 : Int32)) hx hb dX2_isAnySumLeft_3 (by decide) ?_
        refine tb_icmp_ge (tgt := 27) hx hb dX2_isAnySumLeft_5 (by decide) (fun c2 => ?_) (fun c2 => ?_)
        · skip
          refine lv_iconst (v := (0 : Int32)) hx hb dX2_isAnySumLeft_27 (by decide) ?_
          exact hret H locs ls 28 (0 : Int32) G dX2_isAnySumLeft_28 (by omega) ⟨rfl, by omega⟩ hT hS
        · skip
          refine lv_aload_n hx hb dX2_isAnySumLeft_8 rfl (lv_at hl 1 rfl) ?_
          refine gf_2_4 hx hb hts hin2 hown hK hT k0 hfl26 dX2_isAnySumLeft_9 (fun a3 ka3 fva3 => ?_)
          refine lv_iload_n hx hb dX2_isAnySumLeft_12 rfl (lv_at hl 0 rfl) ?_
          refine tw_la (K := 2006) (n := 6) (P := fun _ => True) hx hb hK hT ka3 (by decide) rfl rfl (by omega) rfl dX2_isAnySumLeft_13 (fun y4 _ fvy4 => ?_)
          refine lv_lconst (v := 0) hx hb dX2_isAnySumLeft_14 (by decide) ?_
          refine tb_lcmp2 hx hb dX2_isAnySumLeft_15 (fun x5 tx5 ux5 => ?_)
          refine tb_if_eq (tgt := 21) hx hb dX2_isAnySumLeft_16 (by decide) (fun c6 => ?_) (fun c6 => ?_)
          · skip
            obtain ⟨x7, ex7⟩ : ∃ z : Int32, z = x1 + (1 : Int32) := ⟨_, rfl⟩
            refine lv_iinc (v := x7) (lv' := [(1, .int x7), (0, .ref p0)]) hx hb dX2_isAnySumLeft_21 hl (k := 0) rfl (by rw [ex7]; rfl) (by decide) rfl (fun ls hl => ?_)
            have tx7 : x7.toInt = x1.toInt + 1 := by rw [ex7, ti_add (by have := i32b x1; omega), hc1]
            refine lv_goto (tgt := 2) hx hb dX2_isAnySumLeft_24 (by decide) ?_
            exact ih2 ((2147483647 - x7.toInt).toNat) (by have := i32b x7; omega) H locs ls x7 rfl hT hS (lv_sub hl [0, 1] rfl) (by omega)
          · skip
            refine lv_iconst (v := (1 : Int32)) hx hb dX2_isAnySumLeft_19 (by decide) ?_
            exact hret H locs ls 20 (1 : Int32) G dX2_isAnySumLeft_20 (by omega) ⟨rfl, by omega⟩ hT hS
    exact L2 _ H locs ls (0 : Int32) rfl hT hS (lv_sub hl [0, 1] rfl) (by omega)
  exact main s.heap [] hT va_S.rf

abbrev rmX2_prepare : Room := { frames := 3, cells := 0, slots := 0, locals := 75 }
set_option maxHeartbeats 4000000 in
set_option maxRecDepth 100000 in
theorem c_X2_prepare (l : Launch) (D : va_G) (cy : Nat → ClassId) (κ : Nat → Nat) (G : Gh) (p0 : Nat) (k0 : κ p0 = 3) (p1 : Nat) (k1 : κ p1 = 8) : Met l yX2_prepare wsX2_prepare rmX2_prepare (va_Pc [.ref p0, .ref p1] (fun U => WW D cy κ G U)) (va_Qv (fun u : Gh => u = G ∧ (True)) (fun u t => WW D cy κ u t) (AA κ)) 0 0 (AA κ) := by
  refine Met.twv (cc := cX2_prepare) (maxL := 14) (by decide) rfl (Nat.le_of_ble_eq_true rfl) ?_
  intro p e s m args below meth c Q hx hb hml hown hts hK hT hret ls hl
  have hl : lv_has ls 14 [(0, .ref p0), (1, .ref p1)] := hl
  have hc0 : (0 : Int32).toInt = 0 := rfl
  have hfl26 := hts (.fieldLink RX2 26 "PlyPlates$Flat" "sums" "[J") (by decide +kernel)
  have hin2 : ∀ w ∈ u_ws RX2 TX2 13, w ∈ wsX2_prepare := by decide +kernel
  have hc1 : (1 : Int32).toInt = 1 := rfl
  have hc2 : (2 : Int32).toInt = 2 := rfl
  have hc3 : (3 : Int32).toInt = 3 := rfl
  have hc4 : (4 : Int32).toInt = 4 := rfl
  have hc5 : (5 : Int32).toInt = 5 := rfl
  have hfl22 := hts (.fieldLink RX2 22 "PlyPlates$Flat" "adjoint" "[J") (by decide +kernel)
  have hfl32 := hts (.fieldLink RX2 32 "PlyPlates$Flat" "below" "J") (by decide +kernel)
  have main : ∀ (H : Heap) (locs : List Loc), TW D cy κ G H → va_S (AA κ) s.heap H locs → W p l e rmX2_prepare s m args below meth c H locs 0 0 Q (F0 m 0 ls []) := by
    intro H locs hT hS
    refine lv_aload_n hx hb dX2_prepare_0 rfl (lv_at hl 0 rfl) ?_
    refine lv_aload_n hx hb dX2_prepare_1 rfl (lv_at hl 1 rfl) ?_
    refine lv_iconst (v := (0 : Int32)) hx hb dX2_prepare_2 (by decide) ?_
    refine tw_Vv (q := (RX2, TX2, 13)) (As := [.ref p1, .int (0 : Int32)]) (rest := []) ⟨hx, hb, hml, hown, hts⟩ (c_X2_sum l D cy κ G p0 k0 p1 k1 (0 : Int32)) (cwV 2 hts gX2_prepare_X2_sum rfl rfl rfl (by decide +kernel) ⟨Nat.le_of_ble_eq_true rfl, Nat.le_of_ble_eq_true rfl⟩) hK hT hS k0 (by decide) rfl rfl hl.1 rfl (Nat.le_of_ble_eq_true rfl) dX2_prepare_3 ⟨Nat.zero_le _, Nat.zero_le _⟩ (fun u2 H locs hpu2 hT hS => ?_)
    obtain ⟨huu2, qu2⟩ := hpu2
    rw [huu2] at hT
    refine lv_aload_n hx hb dX2_prepare_6 rfl (lv_at hl 0 rfl) ?_
    refine gf_2_4 hx hb hts hin2 hown hK hT k0 hfl26 dX2_prepare_7 (fun a3 ka3 fva3 => ?_)
    refine lv_iconst (v := (0 : Int32)) hx hb dX2_prepare_10 (by decide) ?_
    refine tw_la (K := 2006) (n := 6) (P := fun _ => True) hx hb hK hT ka3 (by decide) rfl rfl (by omega) rfl dX2_prepare_11 (fun y4 _ fvy4 => ?_)
    refine lv_lstore_n (lv' := [(2, .long y4), (0, .ref p0), (1, .ref p1)]) hx hb dX2_prepare_12 rfl hl (by decide) rfl (fun ls hl => ?_)
    refine lv_aload_n hx hb dX2_prepare_13 rfl (lv_at hl 1 rfl) ?_
    refine gf_2_4 hx hb hts hin2 hown hK hT k0 hfl26 dX2_prepare_14 (fun a5 ka5 fva5 => ?_)
    obtain rfl : a3 = a5 := eRef (FV.eq fva3 fva5)
    refine lv_iconst (v := (1 : Int32)) hx hb dX2_prepare_17 (by decide) ?_
    refine tw_la (K := 2006) (n := 6) (P := fun _ => True) hx hb hK hT ka3 (by decide) rfl rfl (by omega) rfl dX2_prepare_18 (fun y6 _ fvy6 => ?_)
    refine lv_lstore (lv' := [(4, .long y6), (2, .long y4), (0, .ref p0), (1, .ref p1)]) hx hb dX2_prepare_19 hl (by decide) rfl (fun ls hl => ?_)
    refine lv_aload_n hx hb dX2_prepare_21 rfl (lv_at hl 2 rfl) ?_
    refine gf_2_4 hx hb hts hin2 hown hK hT k0 hfl26 dX2_prepare_22 (fun a7 ka7 fva7 => ?_)
    obtain rfl : a3 = a7 := eRef (FV.eq fva3 fva7)
    refine lv_iconst (v := (2 : Int32)) hx hb dX2_prepare_25 (by decide) ?_
    refine tw_la (K := 2006) (n := 6) (P := fun _ => True) hx hb hK hT ka3 (by decide) rfl rfl (by omega) rfl dX2_prepare_26 (fun y8 _ fvy8 => ?_)
    refine lv_lstore (lv' := [(6, .long y8), (4, .long y6), (2, .long y4), (0, .ref p0), (1, .ref p1)]) hx hb dX2_prepare_27 hl (by decide) rfl (fun ls hl => ?_)
    refine lv_aload_n hx hb dX2_prepare_29 rfl (lv_at hl 3 rfl) ?_
    refine gf_2_4 hx hb hts hin2 hown hK hT k0 hfl26 dX2_prepare_30 (fun a9 ka9 fva9 => ?_)
    obtain rfl : a3 = a9 := eRef (FV.eq fva3 fva9)
    refine lv_iconst (v := (3 : Int32)) hx hb dX2_prepare_33 (by decide) ?_
    refine tw_la (K := 2006) (n := 6) (P := fun _ => True) hx hb hK hT ka3 (by decide) rfl rfl (by omega) rfl dX2_prepare_34 (fun y10 _ fvy10 => ?_)
    refine lv_lstore (lv' := [(8, .long y10), (6, .long y8), (4, .long y6), (2, .long y4), (0, .ref p0), (1, .ref p1)]) hx hb dX2_prepare_35 hl (by decide) rfl (fun ls hl => ?_)
    refine lv_aload_n hx hb dX2_prepare_37 rfl (lv_at hl 4 rfl) ?_
    refine gf_2_4 hx hb hts hin2 hown hK hT k0 hfl26 dX2_prepare_38 (fun a11 ka11 fva11 => ?_)
    obtain rfl : a3 = a11 := eRef (FV.eq fva3 fva11)
    refine lv_iconst (v := (4 : Int32)) hx hb dX2_prepare_41 (by decide) ?_
    refine tw_la (K := 2006) (n := 6) (P := fun _ => True) hx hb hK hT ka3 (by decide) rfl rfl (by omega) rfl dX2_prepare_42 (fun y12 _ fvy12 => ?_)
    refine lv_lstore (lv' := [(10, .long y12), (8, .long y10), (6, .long y8), (4, .long y6), (2, .long y4), (0, .ref p0), (1, .ref p1)]) hx hb dX2_prepare_43 hl (by decide) rfl (fun ls hl => ?_)
    refine lv_aload_n hx hb dX2_prepare_45 rfl (lv_at hl 5 rfl) ?_
    refine gf_2_4 hx hb hts hin2 hown hK hT k0 hfl26 dX2_prepare_46 (fun a13 ka13 fva13 => ?_)
    obtain rfl : a3 = a13 := eRef (FV.eq fva3 fva13)
    refine lv_iconst (v := (5 : Int32)) hx hb dX2_prepare_49 (by decide) ?_
    refine tw_la (K := 2006) (n := 6) (P := fun _ => True) hx hb hK hT ka3 (by decide) rfl rfl (by omega) rfl dX2_prepare_50 (fun y14 _ fvy14 => ?_)
    refine lv_lstore (lv' := [(12, .long y14), (10, .long y12), (8, .long y10), (6, .long y8), (4, .long y6), (2, .long y4), (0, .ref p0), (1, .ref p1)]) hx hb dX2_prepare_51 hl (by decide) rfl (fun ls hl => ?_)
    refine lv_aload_n hx hb dX2_prepare_53 rfl (lv_at hl 6 rfl) ?_
    refine gf_2_3 hx hb hts hin2 hown hK hT k0 hfl22 dX2_prepare_54 (fun a15 ka15 fva15 => ?_)
    refine lv_iconst (v := (0 : Int32)) hx hb dX2_prepare_57 (by decide) ?_
    refine lv_lload hx hb dX2_prepare_58 (lv_at hl 4 rfl) ?_
    refine lv_lload hx hb dX2_prepare_60 (lv_at hl 2 rfl) ?_
    refine lv_lmul hx hb dX2_prepare_62 ?_
    refine lv_topl (fun y16 ey16 => ?_)
    refine lv_lload hx hb dX2_prepare_63 (lv_at hl 0 rfl) ?_
    refine lv_lload hx hb dX2_prepare_65 (lv_at hl 0 rfl) ?_
    refine lv_lmul hx hb dX2_prepare_67 ?_
    refine lv_topl (fun y17 ey17 => ?_)
    refine lv_lsub hx hb dX2_prepare_68 ?_
    refine lv_topl (fun y18 ey18 => ?_)
    refine tw_las (K := 2006) (n := 6) (P := fun _ => True) hx hb hK hT hS ka15 (by decide) rfl rfl (by omega) rfl trivial dX2_prepare_69 (fun H locs hT hS hq => ?_)
    refine lv_aload_n hx hb dX2_prepare_70 rfl (lv_at hl 6 rfl) ?_
    refine gf_2_3 hx hb hts hin2 hown hK hT k0 hfl22 dX2_prepare_71 (fun a19 ka19 fva19 => ?_)
    refine lv_iconst (v := (1 : Int32)) hx hb dX2_prepare_74 (by decide) ?_
    refine lv_lload_n hx hb dX2_prepare_75 rfl (lv_at hl 5 rfl) ?_
    refine lv_lload hx hb dX2_prepare_76 (lv_at hl 2 rfl) ?_
    refine lv_lmul hx hb dX2_prepare_78 ?_
    refine lv_topl (fun y20 ey20 => ?_)
    refine lv_lload hx hb dX2_prepare_79 (lv_at hl 1 rfl) ?_
    refine lv_lload hx hb dX2_prepare_81 (lv_at hl 1 rfl) ?_
    refine lv_lmul hx hb dX2_prepare_83 ?_
    refine lv_topl (fun y21 ey21 => ?_)
    refine lv_lsub hx hb dX2_prepare_84 ?_
    refine lv_topl (fun y22 ey22 => ?_)
    refine tw_las (K := 2006) (n := 6) (P := fun _ => True) hx hb hK hT hS ka19 (by decide) rfl rfl (by omega) rfl trivial dX2_prepare_85 (fun H locs hT hS hq => ?_)
    refine lv_aload_n hx hb dX2_prepare_86 rfl (lv_at hl 6 rfl) ?_
    refine gf_2_3 hx hb hts hin2 hown hK hT k0 hfl22 dX2_prepare_87 (fun a23 ka23 fva23 => ?_)
    refine lv_iconst (v := (3 : Int32)) hx hb dX2_prepare_90 (by decide) ?_
    refine lv_lload_n hx hb dX2_prepare_91 rfl (lv_at hl 5 rfl) ?_
    refine lv_lload hx hb dX2_prepare_92 (lv_at hl 4 rfl) ?_
    refine lv_lmul hx hb dX2_prepare_94 ?_
    refine lv_topl (fun y24 ey24 => ?_)
    refine lv_lload hx hb dX2_prepare_95 (lv_at hl 3 rfl) ?_
    refine lv_lload hx hb dX2_prepare_97 (lv_at hl 3 rfl) ?_
    refine lv_lmul hx hb dX2_prepare_99 ?_
    refine lv_topl (fun y25 ey25 => ?_)
    refine lv_lsub hx hb dX2_prepare_100 ?_
    refine lv_topl (fun y26 ey26 => ?_)
    refine tw_las (K := 2006) (n := 6) (P := fun _ => True) hx hb hK hT hS ka23 (by decide) rfl rfl (by omega) rfl trivial dX2_prepare_101 (fun H locs hT hS hq => ?_)
    refine lv_aload_n hx hb dX2_prepare_102 rfl (lv_at hl 6 rfl) ?_
    refine gf_2_3 hx hb hts hin2 hown hK hT k0 hfl22 dX2_prepare_103 (fun a27 ka27 fva27 => ?_)
    refine lv_iconst (v := (2 : Int32)) hx hb dX2_prepare_106 (by decide) ?_
    refine lv_lload hx hb dX2_prepare_107 (lv_at hl 1 rfl) ?_
    refine lv_lload hx hb dX2_prepare_109 (lv_at hl 0 rfl) ?_
    refine lv_lmul hx hb dX2_prepare_111 ?_
    refine lv_topl (fun y28 ey28 => ?_)
    refine lv_lload hx hb dX2_prepare_112 (lv_at hl 3 rfl) ?_
    refine lv_lload hx hb dX2_prepare_114 (lv_at hl 2 rfl) ?_
    refine lv_lmul hx hb dX2_prepare_116 ?_
    refine lv_topl (fun y29 ey29 => ?_)
    refine lv_lsub hx hb dX2_prepare_117 ?_
    refine lv_topl (fun y30 ey30 => ?_)
    refine tw_las (K := 2006) (n := 6) (P := fun _ => True) hx hb hK hT hS ka27 (by decide) rfl rfl (by omega) rfl trivial dX2_prepare_118 (fun H locs hT hS hq => ?_)
    refine lv_aload_n hx hb dX2_prepare_119 rfl (lv_at hl 6 rfl) ?_
    refine gf_2_3 hx hb hts hin2 hown hK hT k0 hfl22 dX2_prepare_120 (fun a31 ka31 fva31 => ?_)
    refine lv_iconst (v := (4 : Int32)) hx hb dX2_prepare_123 (by decide) ?_
    refine lv_lload hx hb dX2_prepare_124 (lv_at hl 3 rfl) ?_
    refine lv_lload hx hb dX2_prepare_126 (lv_at hl 0 rfl) ?_
    refine lv_lmul hx hb dX2_prepare_128 ?_
    refine lv_topl (fun y32 ey32 => ?_)
    refine lv_lload hx hb dX2_prepare_129 (lv_at hl 4 rfl) ?_
    refine lv_lload hx hb dX2_prepare_131 (lv_at hl 1 rfl) ?_
    refine lv_lmul hx hb dX2_prepare_133 ?_
    refine lv_topl (fun y33 ey33 => ?_)
    refine lv_lsub hx hb dX2_prepare_134 ?_
    refine lv_topl (fun y34 ey34 => ?_)
    refine tw_las (K := 2006) (n := 6) (P := fun _ => True) hx hb hK hT hS ka31 (by decide) rfl rfl (by omega) rfl trivial dX2_prepare_135 (fun H locs hT hS hq => ?_)
    refine lv_aload_n hx hb dX2_prepare_136 rfl (lv_at hl 6 rfl) ?_
    refine gf_2_3 hx hb hts hin2 hown hK hT k0 hfl22 dX2_prepare_137 (fun a35 ka35 fva35 => ?_)
    refine lv_iconst (v := (5 : Int32)) hx hb dX2_prepare_140 (by decide) ?_
    refine lv_lload hx hb dX2_prepare_141 (lv_at hl 3 rfl) ?_
    refine lv_lload hx hb dX2_prepare_143 (lv_at hl 1 rfl) ?_
    refine lv_lmul hx hb dX2_prepare_145 ?_
    refine lv_topl (fun y36 ey36 => ?_)
    refine lv_lload_n hx hb dX2_prepare_146 rfl (lv_at hl 5 rfl) ?_
    refine lv_lload hx hb dX2_prepare_147 (lv_at hl 0 rfl) ?_
    refine lv_lmul hx hb dX2_prepare_149 ?_
    refine lv_topl (fun y37 ey37 => ?_)
    refine lv_lsub hx hb dX2_prepare_150 ?_
    refine lv_topl (fun y38 ey38 => ?_)
    refine tw_las (K := 2006) (n := 6) (P := fun _ => True) hx hb hK hT hS ka35 (by decide) rfl rfl (by omega) rfl trivial dX2_prepare_151 (fun H locs hT hS hq => ?_)
    refine lv_aload_n hx hb dX2_prepare_152 rfl (lv_at hl 6 rfl) ?_
    refine lv_lload_n hx hb dX2_prepare_153 rfl (lv_at hl 5 rfl) ?_
    refine lv_aload_n hx hb dX2_prepare_154 rfl (lv_at hl 6 rfl) ?_
    refine gf_2_3 hx hb hts hin2 hown hK hT k0 hfl22 dX2_prepare_155 (fun a39 ka39 fva39 => ?_)
    refine lv_iconst (v := (0 : Int32)) hx hb dX2_prepare_158 (by decide) ?_
    refine tw_la (K := 2006) (n := 6) (P := fun _ => True) hx hb hK hT ka39 (by decide) rfl rfl (by omega) rfl dX2_prepare_159 (fun y40 _ fvy40 => ?_)
    refine lv_lmul hx hb dX2_prepare_160 ?_
    refine lv_topl (fun y41 ey41 => ?_)
    refine lv_lload hx hb dX2_prepare_161 (lv_at hl 3 rfl) ?_
    refine lv_aload_n hx hb dX2_prepare_163 rfl (lv_at hl 6 rfl) ?_
    refine gf_2_3 hx hb hts hin2 hown hK hT k0 hfl22 dX2_prepare_164 (fun a42 ka42 fva42 => ?_)
    obtain rfl : a39 = a42 := eRef (FV.eq fva39 fva42)
    refine lv_iconst (v := (2 : Int32)) hx hb dX2_prepare_167 (by decide) ?_
    refine tw_la (K := 2006) (n := 6) (P := fun _ => True) hx hb hK hT ka39 (by decide) rfl rfl (by omega) rfl dX2_prepare_168 (fun y43 _ fvy43 => ?_)
    refine lv_lmul hx hb dX2_prepare_169 ?_
    refine lv_topl (fun y44 ey44 => ?_)
    refine lv_ladd hx hb dX2_prepare_170 ?_
    refine lv_topl (fun y45 ey45 => ?_)
    refine lv_lload hx hb dX2_prepare_171 (lv_at hl 1 rfl) ?_
    refine lv_aload_n hx hb dX2_prepare_173 rfl (lv_at hl 6 rfl) ?_
    refine gf_2_3 hx hb hts hin2 hown hK hT k0 hfl22 dX2_prepare_174 (fun a46 ka46 fva46 => ?_)
    obtain rfl : a39 = a46 := eRef (FV.eq fva39 fva46)
    refine lv_iconst (v := (4 : Int32)) hx hb dX2_prepare_177 (by decide) ?_
    refine tw_la (K := 2006) (n := 6) (P := fun _ => True) hx hb hK hT ka39 (by decide) rfl rfl (by omega) rfl dX2_prepare_178 (fun y47 _ fvy47 => ?_)
    refine lv_lmul hx hb dX2_prepare_179 ?_
    refine lv_topl (fun y48 ey48 => ?_)
    refine lv_ladd hx hb dX2_prepare_180 ?_
    refine lv_topl (fun y49 ey49 => ?_)
    refine pf_2_6 hx hb hts hin2 hown hK hT hS k0 hfl32 dX2_prepare_181 (fun H locs hT hS => ?_)
    exact hret H locs ls 184 G dX2_prepare_184 ⟨rfl, trivial⟩ hT hS
  exact main s.heap [] hT va_S.rf

abbrev rmX2_pullFourfold : Room := { frames := 0, cells := 0, slots := 0, locals := 0 }
set_option maxHeartbeats 4000000 in
set_option maxRecDepth 100000 in
theorem c_X2_pullFourfold (l : Launch) (D : va_G) (cy : Nat → ClassId) (κ : Nat → Nat) (G : Gh) (p0 : Nat) (k0 : κ p0 = 3) (p1 : Int64) (p2 : Int64) (p3 : Int64) : Met l yX2_pullFourfold wsX2_pullFourfold rmX2_pullFourfold (va_Pc [.ref p0, .long p1, .long p2, .long p3] (fun U => WW D cy κ G U)) (va_Qv (fun u : Gh => u = G ∧ (True)) (fun u t => WW D cy κ u t) (AA κ)) 0 0 (AA κ) := by
  refine Met.twv (cc := cX2_pullFourfold) (maxL := 7) (by decide) rfl (Nat.le_of_ble_eq_true rfl) ?_
  intro p e s m args below meth c Q hx hb hml hown hts hK hT hret ls hl
  have hl : lv_has ls 7 [(0, .ref p0), (1, .long p1), (3, .long p2), (5, .long p3)] := hl
  have hfl29 := hts (.fieldLink RX2 29 "PlyPlates$Flat" "above" "[J") (by decide +kernel)
  have hin2 : ∀ w ∈ u_ws RX2 TX2 13, w ∈ wsX2_pullFourfold := by decide +kernel
  have hc0 : (0 : Int32).toInt = 0 := rfl
  have hfl22 := hts (.fieldLink RX2 22 "PlyPlates$Flat" "adjoint" "[J") (by decide +kernel)
  have hc2 : (2 : Int32).toInt = 2 := rfl
  have hc4 : (4 : Int32).toInt = 4 := rfl
  have hc1 : (1 : Int32).toInt = 1 := rfl
  have hc5 : (5 : Int32).toInt = 5 := rfl
  have hc3 : (3 : Int32).toInt = 3 := rfl
  have main : ∀ (H : Heap) (locs : List Loc), TW D cy κ G H → va_S (AA κ) s.heap H locs → W p l e rmX2_pullFourfold s m args below meth c H locs 0 0 Q (F0 m 0 ls []) := by
    intro H locs hT hS
    refine lv_aload_n hx hb dX2_pullFourfold_0 rfl (lv_at hl 0 rfl) ?_
    refine gf_2_5 hx hb hts hin2 hown hK hT k0 hfl29 dX2_pullFourfold_1 (fun a1 ka1 fva1 => ?_)
    refine lv_iconst (v := (0 : Int32)) hx hb dX2_pullFourfold_4 (by decide) ?_
    refine lv_aload_n hx hb dX2_pullFourfold_5 rfl (lv_at hl 0 rfl) ?_
    refine gf_2_3 hx hb hts hin2 hown hK hT k0 hfl22 dX2_pullFourfold_6 (fun a2 ka2 fva2 => ?_)
    refine lv_iconst (v := (0 : Int32)) hx hb dX2_pullFourfold_9 (by decide) ?_
    refine tw_la (K := 2006) (n := 6) (P := fun _ => True) hx hb hK hT ka2 (by decide) rfl rfl (by omega) rfl dX2_pullFourfold_10 (fun y3 _ fvy3 => ?_)
    refine lv_lload_n hx hb dX2_pullFourfold_11 rfl (lv_at hl 1 rfl) ?_
    refine lv_lmul hx hb dX2_pullFourfold_12 ?_
    refine lv_topl (fun y4 ey4 => ?_)
    refine lv_aload_n hx hb dX2_pullFourfold_13 rfl (lv_at hl 0 rfl) ?_
    refine gf_2_3 hx hb hts hin2 hown hK hT k0 hfl22 dX2_pullFourfold_14 (fun a5 ka5 fva5 => ?_)
    obtain rfl : a2 = a5 := eRef (FV.eq fva2 fva5)
    refine lv_iconst (v := (2 : Int32)) hx hb dX2_pullFourfold_17 (by decide) ?_
    refine tw_la (K := 2006) (n := 6) (P := fun _ => True) hx hb hK hT ka2 (by decide) rfl rfl (by omega) rfl dX2_pullFourfold_18 (fun y6 _ fvy6 => ?_)
    refine lv_lload_n hx hb dX2_pullFourfold_19 rfl (lv_at hl 2 rfl) ?_
    refine lv_lmul hx hb dX2_pullFourfold_20 ?_
    refine lv_topl (fun y7 ey7 => ?_)
    refine lv_ladd hx hb dX2_pullFourfold_21 ?_
    refine lv_topl (fun y8 ey8 => ?_)
    refine lv_aload_n hx hb dX2_pullFourfold_22 rfl (lv_at hl 0 rfl) ?_
    refine gf_2_3 hx hb hts hin2 hown hK hT k0 hfl22 dX2_pullFourfold_23 (fun a9 ka9 fva9 => ?_)
    obtain rfl : a2 = a9 := eRef (FV.eq fva2 fva9)
    refine lv_iconst (v := (4 : Int32)) hx hb dX2_pullFourfold_26 (by decide) ?_
    refine tw_la (K := 2006) (n := 6) (P := fun _ => True) hx hb hK hT ka2 (by decide) rfl rfl (by omega) rfl dX2_pullFourfold_27 (fun y10 _ fvy10 => ?_)
    refine lv_lload hx hb dX2_pullFourfold_28 (lv_at hl 3 rfl) ?_
    refine lv_lmul hx hb dX2_pullFourfold_30 ?_
    refine lv_topl (fun y11 ey11 => ?_)
    refine lv_ladd hx hb dX2_pullFourfold_31 ?_
    refine lv_topl (fun y12 ey12 => ?_)
    refine tw_las (K := 2003) (n := 3) (P := fun _ => True) hx hb hK hT hS ka1 (by decide) rfl rfl (by omega) rfl trivial dX2_pullFourfold_32 (fun H locs hT hS hq => ?_)
    refine lv_aload_n hx hb dX2_pullFourfold_33 rfl (lv_at hl 0 rfl) ?_
    refine gf_2_5 hx hb hts hin2 hown hK hT k0 hfl29 dX2_pullFourfold_34 (fun a13 ka13 fva13 => ?_)
    refine lv_iconst (v := (1 : Int32)) hx hb dX2_pullFourfold_37 (by decide) ?_
    refine lv_aload_n hx hb dX2_pullFourfold_38 rfl (lv_at hl 0 rfl) ?_
    refine gf_2_3 hx hb hts hin2 hown hK hT k0 hfl22 dX2_pullFourfold_39 (fun a14 ka14 fva14 => ?_)
    refine lv_iconst (v := (2 : Int32)) hx hb dX2_pullFourfold_42 (by decide) ?_
    refine tw_la (K := 2006) (n := 6) (P := fun _ => True) hx hb hK hT ka14 (by decide) rfl rfl (by omega) rfl dX2_pullFourfold_43 (fun y15 _ fvy15 => ?_)
    refine lv_lload_n hx hb dX2_pullFourfold_44 rfl (lv_at hl 1 rfl) ?_
    refine lv_lmul hx hb dX2_pullFourfold_45 ?_
    refine lv_topl (fun y16 ey16 => ?_)
    refine lv_aload_n hx hb dX2_pullFourfold_46 rfl (lv_at hl 0 rfl) ?_
    refine gf_2_3 hx hb hts hin2 hown hK hT k0 hfl22 dX2_pullFourfold_47 (fun a17 ka17 fva17 => ?_)
    obtain rfl : a14 = a17 := eRef (FV.eq fva14 fva17)
    refine lv_iconst (v := (1 : Int32)) hx hb dX2_pullFourfold_50 (by decide) ?_
    refine tw_la (K := 2006) (n := 6) (P := fun _ => True) hx hb hK hT ka14 (by decide) rfl rfl (by omega) rfl dX2_pullFourfold_51 (fun y18 _ fvy18 => ?_)
    refine lv_lload_n hx hb dX2_pullFourfold_52 rfl (lv_at hl 2 rfl) ?_
    refine lv_lmul hx hb dX2_pullFourfold_53 ?_
    refine lv_topl (fun y19 ey19 => ?_)
    refine lv_ladd hx hb dX2_pullFourfold_54 ?_
    refine lv_topl (fun y20 ey20 => ?_)
    refine lv_aload_n hx hb dX2_pullFourfold_55 rfl (lv_at hl 0 rfl) ?_
    refine gf_2_3 hx hb hts hin2 hown hK hT k0 hfl22 dX2_pullFourfold_56 (fun a21 ka21 fva21 => ?_)
    obtain rfl : a14 = a21 := eRef (FV.eq fva14 fva21)
    refine lv_iconst (v := (5 : Int32)) hx hb dX2_pullFourfold_59 (by decide) ?_
    refine tw_la (K := 2006) (n := 6) (P := fun _ => True) hx hb hK hT ka14 (by decide) rfl rfl (by omega) rfl dX2_pullFourfold_60 (fun y22 _ fvy22 => ?_)
    refine lv_lload hx hb dX2_pullFourfold_61 (lv_at hl 3 rfl) ?_
    refine lv_lmul hx hb dX2_pullFourfold_63 ?_
    refine lv_topl (fun y23 ey23 => ?_)
    refine lv_ladd hx hb dX2_pullFourfold_64 ?_
    refine lv_topl (fun y24 ey24 => ?_)
    refine tw_las (K := 2003) (n := 3) (P := fun _ => True) hx hb hK hT hS ka13 (by decide) rfl rfl (by omega) rfl trivial dX2_pullFourfold_65 (fun H locs hT hS hq => ?_)
    refine lv_aload_n hx hb dX2_pullFourfold_66 rfl (lv_at hl 0 rfl) ?_
    refine gf_2_5 hx hb hts hin2 hown hK hT k0 hfl29 dX2_pullFourfold_67 (fun a25 ka25 fva25 => ?_)
    refine lv_iconst (v := (2 : Int32)) hx hb dX2_pullFourfold_70 (by decide) ?_
    refine lv_aload_n hx hb dX2_pullFourfold_71 rfl (lv_at hl 0 rfl) ?_
    refine gf_2_3 hx hb hts hin2 hown hK hT k0 hfl22 dX2_pullFourfold_72 (fun a26 ka26 fva26 => ?_)
    refine lv_iconst (v := (4 : Int32)) hx hb dX2_pullFourfold_75 (by decide) ?_
    refine tw_la (K := 2006) (n := 6) (P := fun _ => True) hx hb hK hT ka26 (by decide) rfl rfl (by omega) rfl dX2_pullFourfold_76 (fun y27 _ fvy27 => ?_)
    refine lv_lload_n hx hb dX2_pullFourfold_77 rfl (lv_at hl 1 rfl) ?_
    refine lv_lmul hx hb dX2_pullFourfold_78 ?_
    refine lv_topl (fun y28 ey28 => ?_)
    refine lv_aload_n hx hb dX2_pullFourfold_79 rfl (lv_at hl 0 rfl) ?_
    refine gf_2_3 hx hb hts hin2 hown hK hT k0 hfl22 dX2_pullFourfold_80 (fun a29 ka29 fva29 => ?_)
    obtain rfl : a26 = a29 := eRef (FV.eq fva26 fva29)
    refine lv_iconst (v := (5 : Int32)) hx hb dX2_pullFourfold_83 (by decide) ?_
    refine tw_la (K := 2006) (n := 6) (P := fun _ => True) hx hb hK hT ka26 (by decide) rfl rfl (by omega) rfl dX2_pullFourfold_84 (fun y30 _ fvy30 => ?_)
    refine lv_lload_n hx hb dX2_pullFourfold_85 rfl (lv_at hl 2 rfl) ?_
    refine lv_lmul hx hb dX2_pullFourfold_86 ?_
    refine lv_topl (fun y31 ey31 => ?_)
    refine lv_ladd hx hb dX2_pullFourfold_87 ?_
    refine lv_topl (fun y32 ey32 => ?_)
    refine lv_aload_n hx hb dX2_pullFourfold_88 rfl (lv_at hl 0 rfl) ?_
    refine gf_2_3 hx hb hts hin2 hown hK hT k0 hfl22 dX2_pullFourfold_89 (fun a33 ka33 fva33 => ?_)
    obtain rfl : a26 = a33 := eRef (FV.eq fva26 fva33)
    refine lv_iconst (v := (3 : Int32)) hx hb dX2_pullFourfold_92 (by decide) ?_
    refine tw_la (K := 2006) (n := 6) (P := fun _ => True) hx hb hK hT ka26 (by decide) rfl rfl (by omega) rfl dX2_pullFourfold_93 (fun y34 _ fvy34 => ?_)
    refine lv_lload hx hb dX2_pullFourfold_94 (lv_at hl 3 rfl) ?_
    refine lv_lmul hx hb dX2_pullFourfold_96 ?_
    refine lv_topl (fun y35 ey35 => ?_)
    refine lv_ladd hx hb dX2_pullFourfold_97 ?_
    refine lv_topl (fun y36 ey36 => ?_)
    refine tw_las (K := 2003) (n := 3) (P := fun _ => True) hx hb hK hT hS ka25 (by decide) rfl rfl (by omega) rfl trivial dX2_pullFourfold_98 (fun H locs hT hS hq => ?_)
    exact hret H locs ls 99 G dX2_pullFourfold_99 ⟨rfl, trivial⟩ hT hS
  exact main s.heap [] hT va_S.rf

abbrev rmX2_pull : Room := { frames := 1, cells := 0, slots := 0, locals := 26 }
set_option maxHeartbeats 4000000 in
set_option maxRecDepth 100000 in
theorem c_X2_pull (l : Launch) (D : va_G) (cy : Nat → ClassId) (κ : Nat → Nat) (G : Gh) (p0 : Nat) (k0 : κ p0 = 3) (p1 : Int32) (p2 : Int32) (p3 : Int32) : Met l yX2_pull wsX2_pull rmX2_pull (va_Pc [.ref p0, .int p1, .int p2, .int p3] (fun U => WW D cy κ G U)) (va_Qv (fun u : Gh => u = G ∧ (True)) (fun u t => WW D cy κ u t) (AA κ)) 0 0 (AA κ) := by
  refine Met.twv (cc := cX2_pull) (maxL := 4) (by decide) rfl (Nat.le_of_ble_eq_true rfl) ?_
  intro p e s m args below meth c Q hx hb hml hown hts hK hT hret ls hl
  have hl : lv_has ls 4 [(0, .ref p0), (1, .int p1), (2, .int p2), (3, .int p3)] := hl
  have hkl114 := hts (.constantLong RX2 114 (4)) (by decide +kernel)
  have hlk114 : (4 : Int64).toInt = 4 := rfl
  have main : ∀ (H : Heap) (locs : List Loc), TW D cy κ G H → va_S (AA κ) s.heap H locs → W p l e rmX2_pull s m args below meth c H locs 0 0 Q (F0 m 0 ls []) := by
    intro H locs hT hS
    refine lv_aload_n hx hb dX2_pull_0 rfl (lv_at hl 0 rfl) ?_
    refine lv_ldc2 hx hb hown hkl114 dX2_pull_1 ?_
    refine lv_iload_n hx hb dX2_pull_4 rfl (lv_at hl 1 rfl) ?_
    refine lv_i2l hx hb dX2_pull_5 rfl ?_
    refine lv_topl (fun y1 ey1 => ?_)
    have ty1 : y1.toInt = p1.toInt := by rw [ey1]; exact Int32.toInt_toInt64 p1
    refine lv_lmul hx hb dX2_pull_6 ?_
    refine lv_topl (fun y2 ey2 => ?_)
    refine lv_ldc2 hx hb hown hkl114 dX2_pull_7 ?_
    refine lv_iload_n hx hb dX2_pull_10 rfl (lv_at hl 2 rfl) ?_
    refine lv_i2l hx hb dX2_pull_11 rfl ?_
    refine lv_topl (fun y3 ey3 => ?_)
    have ty3 : y3.toInt = p2.toInt := by rw [ey3]; exact Int32.toInt_toInt64 p2
    refine lv_lmul hx hb dX2_pull_12 ?_
    refine lv_topl (fun y4 ey4 => ?_)
    refine lv_ldc2 hx hb hown hkl114 dX2_pull_13 ?_
    refine lv_iload_n hx hb dX2_pull_16 rfl (lv_at hl 3 rfl) ?_
    refine lv_i2l hx hb dX2_pull_17 rfl ?_
    refine lv_topl (fun y5 ey5 => ?_)
    have ty5 : y5.toInt = p3.toInt := by rw [ey5]; exact Int32.toInt_toInt64 p3
    refine lv_lmul hx hb dX2_pull_18 ?_
    refine lv_topl (fun y6 ey6 => ?_)
    refine tw_Vv (q := (RX2, TX2, 13)) (As := [.long y2, .long y4, .long y6]) (rest := []) ⟨hx, hb, hml, hown, hts⟩ (c_X2_pullFourfold l D cy κ G p0 k0 y2 y4 y6) (cwV 3 hts gX2_pull_X2_pullFourfold rfl rfl rfl (by decide +kernel) ⟨Nat.le_of_ble_eq_true rfl, Nat.le_of_ble_eq_true rfl⟩) hK hT hS k0 (by decide) rfl rfl hl.1 rfl (Nat.le_of_ble_eq_true rfl) dX2_pull_19 ⟨Nat.zero_le _, Nat.zero_le _⟩ (fun u8 H locs hpu8 hT hS => ?_)
    obtain ⟨huu8, qu8⟩ := hpu8
    rw [huu8] at hT
    exact hret H locs ls 22 G dX2_pull_22 ⟨rfl, trivial⟩ hT hS
  exact main s.heap [] hT va_S.rf

abbrev rmX2_warmUp : Room := { frames := 1, cells := 0, slots := 0, locals := 26 }
set_option maxHeartbeats 4000000 in
set_option maxRecDepth 100000 in
theorem c_X2_warmUp (l : Launch) (D : va_G) (cy : Nat → ClassId) (κ : Nat → Nat) (G : Gh) (p0 : Nat) (k0 : κ p0 = 3) (p1 : Nat) (k1 : κ p1 = 8) (p2 : Int32) : Met l yX2_warmUp wsX2_warmUp rmX2_warmUp (va_Pc [.ref p0, .ref p1, .int p2] (fun U => WW D cy κ G U)) (va_Qv (fun u : Gh => u = G ∧ (True)) (fun u t => WW D cy κ u t) (AA κ)) 0 0 (AA κ) := by
  refine Met.twv (cc := cX2_warmUp) (maxL := 18) (by decide) rfl (Nat.le_of_ble_eq_true rfl) ?_
  intro p e s m args below meth c Q hx hb hml hown hts hK hT hret ls hl
  have hl : lv_has ls 18 [(0, .ref p0), (1, .ref p1), (2, .int p2)] := hl
  have hlc0 : (0 : Int64).toInt = 0 := rfl
  have hc0 : (0 : Int32).toInt = 0 := rfl
  have hfl94 := hts (.fieldLink RX2 94 "PlyPlates$Plate" "size" "I") (by decide +kernel)
  have hin7 : ∀ w ∈ u_ws RX7 TX7 2, w ∈ wsX2_warmUp := by decide +kernel
  have hfl97 := hts (.fieldLink RX2 97 "PlyPlates$Plate" "layers" "[LPlyPlates$Layer;") (by decide +kernel)
  have hfl55 := hts (.fieldLink RX2 55 "PlyPlates$Flat" "stuffs" "[LPlyPlates$Stuff;") (by decide +kernel)
  have hin2 : ∀ w ∈ u_ws RX2 TX2 13, w ∈ wsX2_warmUp := by decide +kernel
  have hfl63 := hts (.fieldLink RX2 63 "PlyPlates$Layer" "stuffNumber" "I") (by decide +kernel)
  have hin5 : ∀ w ∈ u_ws RX5 TX5 4, w ∈ wsX2_warmUp := by decide +kernel
  have hfl12 := hts (.fieldLink RX2 12 "PlyPlates$Flat" "left" "LPlyPlates$Left;") (by decide +kernel)
  have hfl68 := hts (.fieldLink RX2 68 "PlyPlates$Layer" "broken" "I") (by decide +kernel)
  have hfl103 := hts (.fieldLink RX2 103 "PlyPlates$Layer" "thick" "I") (by decide +kernel)
  have hfl120 := hts (.fieldLink RX2 120 "PlyPlates$Left" "q11" "I") (by decide +kernel)
  have hin6 : ∀ w ∈ u_ws RX6 TX6 4, w ∈ wsX2_warmUp := by decide +kernel
  have hfl123 := hts (.fieldLink RX2 123 "PlyPlates$Stuff" "along" "I") (by decide +kernel)
  have hin9 : ∀ w ∈ u_ws RX9 TX9 7, w ∈ wsX2_warmUp := by decide +kernel
  have hfl128 := hts (.fieldLink RX2 128 "PlyPlates$Left" "q12" "I") (by decide +kernel)
  have hfl131 := hts (.fieldLink RX2 131 "PlyPlates$Stuff" "across" "I") (by decide +kernel)
  have hfl134 := hts (.fieldLink RX2 134 "PlyPlates$Left" "q22" "I") (by decide +kernel)
  have hfl75 := hts (.fieldLink RX2 75 "PlyPlates$Layer" "way" "I") (by decide +kernel)
  have hc1 : (1 : Int32).toInt = 1 := rfl
  have hkl114 := hts (.constantLong RX2 114 (4)) (by decide +kernel)
  have hlk114 : (4 : Int64).toInt = 4 := rfl
  have hkl101 := hts (.constantLong RX2 101 (2)) (by decide +kernel)
  have hlk101 : (2 : Int64).toInt = 2 := rfl
  have hc2 : (2 : Int32).toInt = 2 := rfl
  have main : ∀ (H : Heap) (locs : List Loc), TW D cy κ G H → va_S (AA κ) s.heap H locs → W p l e rmX2_warmUp s m args below meth c H locs 0 0 Q (F0 m 0 ls []) := by
    intro H locs hT hS
    refine lv_lconst (v := 0) hx hb dX2_warmUp_0 (by decide) ?_
    refine lv_lstore_n (lv' := [(3, .long (0 : Int64)), (0, .ref p0), (1, .ref p1), (2, .int p2)]) hx hb dX2_warmUp_1 rfl hl (by decide) rfl (fun ls hl => ?_)
    refine lv_lconst (v := 0) hx hb dX2_warmUp_2 (by decide) ?_
    refine lv_lstore (lv' := [(5, .long (0 : Int64)), (3, .long (0 : Int64)), (0, .ref p0), (1, .ref p1), (2, .int p2)]) hx hb dX2_warmUp_3 hl (by decide) rfl (fun ls hl => ?_)
    refine lv_lconst (v := 0) hx hb dX2_warmUp_5 (by decide) ?_
    refine lv_lstore (lv' := [(7, .long (0 : Int64)), (5, .long (0 : Int64)), (3, .long (0 : Int64)), (0, .ref p0), (1, .ref p1), (2, .int p2)]) hx hb dX2_warmUp_6 hl (by decide) rfl (fun ls hl => ?_)
    refine lv_iconst (v := (0 : Int32)) hx hb dX2_warmUp_8 (by decide) ?_
    refine lv_istore (lv' := [(9, .int (0 : Int32)), (7, .long (0 : Int64)), (5, .long (0 : Int64)), (3, .long (0 : Int64)), (0, .ref p0), (1, .ref p1), (2, .int p2)]) hx hb dX2_warmUp_9 hl (by decide) rfl (fun ls hl => ?_)
    have L11 : ∀ (nn : Nat) (H : Heap) (locs : List Loc) (ls : Array Slot) (x1 : Int32) (y2 : Int64) (y3 : Int64) (y4 : Int64), (nn = (2147483647 - x1.toInt).toNat) → (TW D cy κ G H) → (va_S (AA κ) s.heap H locs) → (lv_has ls 18 [(9, .int x1), (7, .long y2), (5, .long y3), (3, .long y4), (0, .ref p0), (1, .ref p1), (2, .int p2)]) → (0 ≤ x1.toInt ∧ x1.toInt ≤ 12) → W p l e rmX2_warmUp s m args below meth c H locs 0 0 Q (F0 m 11 ls []) := by
      intro nn
      induction nn using Nat.strongRecOn with
      | _ nn ih11 =>
        intro H locs ls x1 y2 y3 y4 hnn hT hS hl fL11_0
        refine lv_iload hx hb dX2_warmUp_11 (lv_at hl 0 rfl) ?_
        refine lv_aload_n hx hb dX2_warmUp_13 rfl (lv_at hl 5 rfl) ?_
        refine gf_7_1 hx hb hts hin7 hown hK hT k1 hfl94 dX2_warmUp_14 (fun x5 kx5 fvx5 => ?_)
        have gx5 := congrArg Int32.toInt kx5.1
        refine tb_icmp_ge (tgt := 261) hx hb dX2_warmUp_17 (by decide) (fun c6 => ?_) (fun c6 => ?_)
        · skip
          refine lv_aload_n hx hb dX2_warmUp_261 rfl (lv_at hl 4 rfl) ?_
          refine lv_lload_n hx hb dX2_warmUp_262 rfl (lv_at hl 3 rfl) ?_
          refine lv_lload hx hb dX2_warmUp_263 (lv_at hl 2 rfl) ?_
          refine lv_lload hx hb dX2_warmUp_265 (lv_at hl 1 rfl) ?_
          refine tw_Vv (q := (RX2, TX2, 13)) (As := [.long y4, .long y3, .long y2]) (rest := []) ⟨hx, hb, hml, hown, hts⟩ (c_X2_pullFourfold l D cy κ G p0 k0 y4 y3 y2) (cwV 3 hts gX2_warmUp_X2_pullFourfold rfl rfl rfl (by decide +kernel) ⟨Nat.le_of_ble_eq_true rfl, Nat.le_of_ble_eq_true rfl⟩) hK hT hS k0 (by decide) rfl rfl hl.1 rfl (Nat.le_of_ble_eq_true rfl) dX2_warmUp_267 ⟨Nat.zero_le _, Nat.zero_le _⟩ (fun u8 H locs hpu8 hT hS => ?_)
          obtain ⟨huu8, qu8⟩ := hpu8
          rw [huu8] at hT
          exact hret H locs ls 270 G dX2_warmUp_270 ⟨rfl, trivial⟩ hT hS
        · skip
          refine lv_aload_n hx hb dX2_warmUp_20 rfl (lv_at hl 5 rfl) ?_
          refine gf_7_0 hx hb hts hin7 hown hK hT k1 hfl97 dX2_warmUp_21 (fun a9 ka9 fva9 => ?_)
          refine lv_iload hx hb dX2_warmUp_24 (lv_at hl 0 rfl) ?_
          refine tw_ra (K := 29) (t := 2) (ty := .object RX5) (n := 12) (P := fun b => κ b = 6) hx hb hK hT ka9 (by decide) rfl rfl rfl rfl (by omega) rfl dX2_warmUp_26 (fun a10 ka10 fva10 => ?_)
          refine lv_astore (lv' := [(10, .ref a10), (9, .int x1), (7, .long y2), (5, .long y3), (3, .long y4), (0, .ref p0), (1, .ref p1), (2, .int p2)]) hx hb dX2_warmUp_27 hl (by decide) rfl (fun ls hl => ?_)
          refine lv_aload_n hx hb dX2_warmUp_29 rfl (lv_at hl 5 rfl) ?_
          refine gf_2_0 hx hb hts hin2 hown hK hT k0 hfl55 dX2_warmUp_30 (fun a11 ka11 fva11 => ?_)
          refine lv_aload hx hb dX2_warmUp_33 (lv_at hl 0 rfl) ?_
          refine gf_5_0 hx hb hts hin5 hown hK hT ka10 hfl63 dX2_warmUp_35 (fun x12 kx12 fvx12 => ?_)
          refine tw_ra (K := 24) (t := 4) (ty := .object RX9) (n := 3) (P := fun b => κ b = 10) hx hb hK hT ka11 (by decide) rfl rfl rfl rfl (by omega) rfl dX2_warmUp_38 (fun a13 ka13 fva13 => ?_)
          refine lv_astore (lv' := [(11, .ref a13), (10, .ref a10), (9, .int x1), (7, .long y2), (5, .long y3), (3, .long y4), (0, .ref p0), (1, .ref p1), (2, .int p2)]) hx hb dX2_warmUp_39 hl (by decide) rfl (fun ls hl => ?_)
          refine lv_aload_n hx hb dX2_warmUp_41 rfl (lv_at hl 6 rfl) ?_
          refine gf_2_1 hx hb hts hin2 hown hK hT k0 hfl12 dX2_warmUp_42 (fun a14 ka14 fva14 => ?_)
          refine lv_aload hx hb dX2_warmUp_45 (lv_at hl 0 rfl) ?_
          refine lv_aload hx hb dX2_warmUp_47 (lv_at hl 1 rfl) ?_
          refine gf_5_3 hx hb hts hin5 hown hK hT ka10 hfl68 dX2_warmUp_49 (fun x15 kx15 fvx15 => ?_)
          refine tw_Vv (q := (RX6, TX6, 4)) (As := [.ref a13, .int x15]) (rest := []) ⟨hx, hb, hml, hown, hts⟩ (c_X6_become l D cy κ G a14 ka14 a13 ka13 x15) (cwV 2 hts gX2_warmUp_X6_become rfl rfl rfl (by decide +kernel) ⟨Nat.le_of_ble_eq_true rfl, Nat.le_of_ble_eq_true rfl⟩) hK hT hS ka14 (by decide) rfl rfl hl.1 rfl (Nat.le_of_ble_eq_true rfl) dX2_warmUp_52 ⟨Nat.zero_le _, Nat.zero_le _⟩ (fun u17 H locs hpu17 hT hS => ?_)
          obtain ⟨huu17, qu17⟩ := hpu17
          rw [huu17] at hT
          refine lv_iload_n hx hb dX2_warmUp_55 rfl (lv_at hl 8 rfl) ?_
          refine lv_i2l hx hb dX2_warmUp_56 rfl ?_
          refine lv_topl (fun y18 ey18 => ?_)
          have ty18 : y18.toInt = p2.toInt := by rw [ey18]; exact Int32.toInt_toInt64 p2
          refine lv_aload hx hb dX2_warmUp_57 (lv_at hl 1 rfl) ?_
          refine gf_5_2 hx hb hts hin5 hown hK hT ka10 hfl103 dX2_warmUp_59 (fun x19 kx19 fvx19 => ?_)
          refine lv_i2l hx hb dX2_warmUp_62 rfl ?_
          refine lv_topl (fun y20 ey20 => ?_)
          have ty20 : y20.toInt = x19.toInt := by rw [ey20]; exact Int32.toInt_toInt64 x19
          refine lv_lmul hx hb dX2_warmUp_63 ?_
          refine lv_topl (fun y21 ey21 => ?_)
          refine lv_lstore (lv' := [(12, .long y21), (11, .ref a13), (10, .ref a10), (9, .int x1), (7, .long y2), (5, .long y3), (3, .long y4), (0, .ref p0), (1, .ref p1), (2, .int p2)]) hx hb dX2_warmUp_64 hl (by decide) rfl (fun ls hl => ?_)
          refine lv_lload hx hb dX2_warmUp_66 (lv_at hl 0 rfl) ?_
          refine lv_aload_n hx hb dX2_warmUp_68 rfl (lv_at hl 7 rfl) ?_
          refine gf_2_1 hx hb hts hin2 hown hK hT k0 hfl12 dX2_warmUp_69 (fun a22 ka22 fva22 => ?_)
          refine gf_6_0 hx hb hts hin6 hown hK hT ka22 hfl120 dX2_warmUp_72 (fun x23 kx23 fvx23 => ?_)
          refine lv_aload hx hb dX2_warmUp_75 (lv_at hl 1 rfl) ?_
          refine gf_9_4 hx hb hts hin9 hown hK hT ka13 hfl123 dX2_warmUp_77 (fun x24 kx24 fvx24 => ?_)
          refine lv_imul hx hb dX2_warmUp_80 ?_
          refine lv_topi (fun x25 ex25 => ?_)
          have tx25 : x25.toInt = (x23 * x24).toInt := by rw [ex25]
          refine lv_aload_n hx hb dX2_warmUp_81 rfl (lv_at hl 7 rfl) ?_
          refine gf_2_1 hx hb hts hin2 hown hK hT k0 hfl12 dX2_warmUp_82 (fun a26 ka26 fva26 => ?_)
          obtain rfl : a22 = a26 := eRef (FV.eq fva22 fva26)
          refine gf_6_2 hx hb hts hin6 hown hK hT ka22 hfl128 dX2_warmUp_85 (fun x27 kx27 fvx27 => ?_)
          refine lv_aload hx hb dX2_warmUp_88 (lv_at hl 1 rfl) ?_
          refine gf_9_5 hx hb hts hin9 hown hK hT ka13 hfl131 dX2_warmUp_90 (fun x28 kx28 fvx28 => ?_)
          refine lv_imul hx hb dX2_warmUp_93 ?_
          refine lv_topi (fun x29 ex29 => ?_)
          have tx29 : x29.toInt = (x27 * x28).toInt := by rw [ex29]
          refine lv_iadd hx hb dX2_warmUp_94 ?_
          refine lv_topi (fun x30 ex30 => ?_)
          have tx30 : x30.toInt = (x25 + x29).toInt := by rw [ex30]
          refine lv_i2l hx hb dX2_warmUp_95 rfl ?_
          refine lv_topl (fun y31 ey31 => ?_)
          have ty31 : y31.toInt = x30.toInt := by rw [ey31]; exact Int32.toInt_toInt64 x30
          refine lv_lmul hx hb dX2_warmUp_96 ?_
          refine lv_topl (fun y32 ey32 => ?_)
          refine lv_lstore (lv' := [(14, .long y32), (12, .long y21), (11, .ref a13), (10, .ref a10), (9, .int x1), (7, .long y2), (5, .long y3), (3, .long y4), (0, .ref p0), (1, .ref p1), (2, .int p2)]) hx hb dX2_warmUp_97 hl (by decide) rfl (fun ls hl => ?_)
          refine lv_lload hx hb dX2_warmUp_99 (lv_at hl 1 rfl) ?_
          refine lv_aload_n hx hb dX2_warmUp_101 rfl (lv_at hl 8 rfl) ?_
          refine gf_2_1 hx hb hts hin2 hown hK hT k0 hfl12 dX2_warmUp_102 (fun a33 ka33 fva33 => ?_)
          obtain rfl : a22 = a33 := eRef (FV.eq fva22 fva33)
          refine gf_6_2 hx hb hts hin6 hown hK hT ka22 hfl128 dX2_warmUp_105 (fun x34 kx34 fvx34 => ?_)
          obtain rfl : x27 = x34 := eInt (FV.eq fvx27 fvx34)
          refine lv_aload hx hb dX2_warmUp_108 (lv_at hl 2 rfl) ?_
          refine gf_9_4 hx hb hts hin9 hown hK hT ka13 hfl123 dX2_warmUp_110 (fun x35 kx35 fvx35 => ?_)
          obtain rfl : x24 = x35 := eInt (FV.eq fvx24 fvx35)
          refine lv_imul hx hb dX2_warmUp_113 ?_
          refine lv_topi (fun x36 ex36 => ?_)
          have tx36 : x36.toInt = (x27 * x24).toInt := by rw [ex36]
          refine lv_aload_n hx hb dX2_warmUp_114 rfl (lv_at hl 8 rfl) ?_
          refine gf_2_1 hx hb hts hin2 hown hK hT k0 hfl12 dX2_warmUp_115 (fun a37 ka37 fva37 => ?_)
          obtain rfl : a22 = a37 := eRef (FV.eq fva22 fva37)
          refine gf_6_1 hx hb hts hin6 hown hK hT ka22 hfl134 dX2_warmUp_118 (fun x38 kx38 fvx38 => ?_)
          refine lv_aload hx hb dX2_warmUp_121 (lv_at hl 2 rfl) ?_
          refine gf_9_5 hx hb hts hin9 hown hK hT ka13 hfl131 dX2_warmUp_123 (fun x39 kx39 fvx39 => ?_)
          obtain rfl : x28 = x39 := eInt (FV.eq fvx28 fvx39)
          refine lv_imul hx hb dX2_warmUp_126 ?_
          refine lv_topi (fun x40 ex40 => ?_)
          have tx40 : x40.toInt = (x38 * x28).toInt := by rw [ex40]
          refine lv_iadd hx hb dX2_warmUp_127 ?_
          refine lv_topi (fun x41 ex41 => ?_)
          have tx41 : x41.toInt = (x36 + x40).toInt := by rw [ex41]
          refine lv_i2l hx hb dX2_warmUp_128 rfl ?_
          refine lv_topl (fun y42 ey42 => ?_)
          have ty42 : y42.toInt = x41.toInt := by rw [ey42]; exact Int32.toInt_toInt64 x41
          refine lv_lmul hx hb dX2_warmUp_129 ?_
          refine lv_topl (fun y43 ey43 => ?_)
          refine lv_lstore (lv' := [(16, .long y43), (14, .long y32), (12, .long y21), (11, .ref a13), (10, .ref a10), (9, .int x1), (7, .long y2), (5, .long y3), (3, .long y4), (0, .ref p0), (1, .ref p1), (2, .int p2)]) hx hb dX2_warmUp_130 hl (by decide) rfl (fun ls hl => ?_)
          refine lv_aload hx hb dX2_warmUp_132 (lv_at hl 4 rfl) ?_
          refine gf_5_1 hx hb hts hin5 hown hK hT ka10 hfl75 dX2_warmUp_134 (fun x44 kx44 fvx44 => ?_)
          have J255 : ∀ (H : Heap) (locs : List Loc) (ls : Array Slot) (y45 : Int64) (y46 : Int64) (y47 : Int64), (TW D cy κ G H) → (va_S (AA κ) s.heap H locs) → (lv_has ls 18 [(7, .long y45), (5, .long y46), (3, .long y47), (16, .long y43), (14, .long y32), (12, .long y21), (11, .ref a13), (10, .ref a10), (9, .int x1), (0, .ref p0), (1, .ref p1), (2, .int p2)]) → W p l e rmX2_warmUp s m args below meth c H locs 0 0 Q (F0 m 255 ls []) := by
            intro H locs ls y45 y46 y47 hT hS hl 
            obtain ⟨x48, ex48⟩ : ∃ z : Int32, z = x1 + (1 : Int32) := ⟨_, rfl⟩
            refine lv_iinc (v := x48) (lv' := [(9, .int x48), (7, .long y45), (5, .long y46), (3, .long y47), (16, .long y43), (14, .long y32), (12, .long y21), (11, .ref a13), (10, .ref a10), (0, .ref p0), (1, .ref p1), (2, .int p2)]) hx hb dX2_warmUp_255 hl (k := 8) rfl (by rw [ex48]; rfl) (by decide) rfl (fun ls hl => ?_)
            have tx48 : x48.toInt = x1.toInt + 1 := by rw [ex48, ti_add (by have := i32b x1; have := i32b p2; omega), hc1]
            refine lv_goto (tgt := 11) hx hb dX2_warmUp_258 (by decide) ?_
            exact ih11 ((2147483647 - x48.toInt).toNat) (by have := i32b x48; have := i32b p2; omega) H locs ls x48 y45 y46 y47 rfl hT hS (lv_sub hl [0, 1, 2, 3, 9, 10, 11] rfl) (by omega)
          have J149 : ∀ (H : Heap) (locs : List Loc) (ls : Array Slot) , (TW D cy κ G H) → (va_S (AA κ) s.heap H locs) → (lv_has ls 18 [(16, .long y43), (14, .long y32), (12, .long y21), (11, .ref a13), (10, .ref a10), (9, .int x1), (7, .long y2), (5, .long y3), (3, .long y4), (0, .ref p0), (1, .ref p1), (2, .int p2)]) → W p l e rmX2_warmUp s m args below meth c H locs 0 0 Q (F0 m 149 ls []) := by
            intro H locs ls  hT hS hl 
            refine lv_lload_n hx hb dX2_warmUp_149 rfl (lv_at hl 8 rfl) ?_
            refine lv_ldc2 hx hb hown hkl114 dX2_warmUp_150 ?_
            refine lv_aload hx hb dX2_warmUp_153 (lv_at hl 4 rfl) ?_
            refine gf_5_1 hx hb hts hin5 hown hK hT ka10 hfl75 dX2_warmUp_155 (fun x49 kx49 fvx49 => ?_)
            have J168 : ∀ (H : Heap) (locs : List Loc) (ls : Array Slot) (y50 : Int64), (TW D cy κ G H) → (va_S (AA κ) s.heap H locs) → (lv_has ls 18 [(16, .long y43), (14, .long y32), (12, .long y21), (11, .ref a13), (10, .ref a10), (9, .int x1), (7, .long y2), (5, .long y3), (3, .long y4), (0, .ref p0), (1, .ref p1), (2, .int p2)]) → W p l e rmX2_warmUp s m args below meth c H locs 0 0 Q (F0 m 168 ls [.long y50, .long (4 : Int64), .long y4]) := by
              intro H locs ls y50 hT hS hl 
              refine lv_lmul hx hb dX2_warmUp_168 ?_
              refine lv_topl (fun y51 ey51 => ?_)
              refine lv_ladd hx hb dX2_warmUp_169 ?_
              refine lv_topl (fun y52 ey52 => ?_)
              refine lv_lstore_n (lv' := [(3, .long y52), (16, .long y43), (14, .long y32), (12, .long y21), (11, .ref a13), (10, .ref a10), (9, .int x1), (7, .long y2), (5, .long y3), (0, .ref p0), (1, .ref p1), (2, .int p2)]) hx hb dX2_warmUp_170 rfl hl (by decide) rfl (fun ls hl => ?_)
              refine lv_lload hx hb dX2_warmUp_171 (lv_at hl 8 rfl) ?_
              refine lv_ldc2 hx hb hown hkl114 dX2_warmUp_173 ?_
              refine lv_aload hx hb dX2_warmUp_176 (lv_at hl 5 rfl) ?_
              refine gf_5_1 hx hb hts hin5 hown hK hT ka10 hfl75 dX2_warmUp_178 (fun x53 kx53 fvx53 => ?_)
              have J191 : ∀ (H : Heap) (locs : List Loc) (ls : Array Slot) (y54 : Int64), (TW D cy κ G H) → (va_S (AA κ) s.heap H locs) → (lv_has ls 18 [(3, .long y52), (16, .long y43), (14, .long y32), (12, .long y21), (11, .ref a13), (10, .ref a10), (9, .int x1), (7, .long y2), (5, .long y3), (0, .ref p0), (1, .ref p1), (2, .int p2)]) → W p l e rmX2_warmUp s m args below meth c H locs 0 0 Q (F0 m 191 ls [.long y54, .long (4 : Int64), .long y3]) := by
                intro H locs ls y54 hT hS hl 
                refine lv_lmul hx hb dX2_warmUp_191 ?_
                refine lv_topl (fun y55 ey55 => ?_)
                refine lv_ladd hx hb dX2_warmUp_192 ?_
                refine lv_topl (fun y56 ey56 => ?_)
                refine lv_lstore (lv' := [(5, .long y56), (3, .long y52), (16, .long y43), (14, .long y32), (12, .long y21), (11, .ref a13), (10, .ref a10), (9, .int x1), (7, .long y2), (0, .ref p0), (1, .ref p1), (2, .int p2)]) hx hb dX2_warmUp_193 hl (by decide) rfl (fun ls hl => ?_)
                refine lv_goto (tgt := 255) hx hb dX2_warmUp_195 (by decide) ?_
                exact J255 H locs ls y2 y56 y52 hT hS (lv_sub hl [8, 0, 1, 2, 3, 4, 5, 6, 7, 9, 10, 11] rfl) 
              refine tb_if_ne (tgt := 189) hx hb dX2_warmUp_181 (by decide) (fun c57 => ?_) (fun c57 => ?_)
              · skip
                refine lv_lload hx hb dX2_warmUp_189 (lv_at hl 2 rfl) ?_
                exact J191 H locs ls y32 hT hS (lv_sub hl [0, 1, 2, 3, 4, 5, 6, 7, 8, 9, 10, 11] rfl) 
              · skip
                refine lv_lload hx hb dX2_warmUp_184 (lv_at hl 1 rfl) ?_
                refine lv_goto (tgt := 191) hx hb dX2_warmUp_186 (by decide) ?_
                exact J191 H locs ls y43 hT hS (lv_sub hl [0, 1, 2, 3, 4, 5, 6, 7, 8, 9, 10, 11] rfl) 
            refine tb_if_ne (tgt := 166) hx hb dX2_warmUp_158 (by decide) (fun c58 => ?_) (fun c58 => ?_)
            · skip
              refine lv_lload hx hb dX2_warmUp_166 (lv_at hl 0 rfl) ?_
              exact J168 H locs ls y43 hT hS (lv_sub hl [0, 1, 2, 3, 4, 5, 6, 7, 8, 9, 10, 11] rfl) 
            · skip
              refine lv_lload hx hb dX2_warmUp_161 (lv_at hl 1 rfl) ?_
              refine lv_goto (tgt := 168) hx hb dX2_warmUp_163 (by decide) ?_
              exact J168 H locs ls y32 hT hS (lv_sub hl [0, 1, 2, 3, 4, 5, 6, 7, 8, 9, 10, 11] rfl) 
          refine tb_if_eq (tgt := 149) hx hb dX2_warmUp_137 (by decide) (fun c59 => ?_) (fun c59 => ?_)
          · skip
            exact J149 H locs ls  hT hS (lv_sub hl [0, 1, 2, 3, 4, 5, 6, 7, 8, 9, 10, 11] rfl) 
          · skip
            refine lv_aload hx hb dX2_warmUp_140 (lv_at hl 4 rfl) ?_
            refine gf_5_1 hx hb hts hin5 hown hK hT ka10 hfl75 dX2_warmUp_142 (fun x60 kx60 fvx60 => ?_)
            obtain rfl : x44 = x60 := eInt (FV.eq fvx44 fvx60)
            refine lv_iconst (v := (1 : Int32)) hx hb dX2_warmUp_145 (by decide) ?_
            refine tb_icmp_ne (tgt := 198) hx hb dX2_warmUp_146 (by decide) (fun c61 => ?_) (fun c61 => ?_)
            · skip
              refine lv_lload_n hx hb dX2_warmUp_198 rfl (lv_at hl 8 rfl) ?_
              refine lv_ldc2 hx hb hown hkl101 dX2_warmUp_199 ?_
              refine lv_lload hx hb dX2_warmUp_202 (lv_at hl 1 rfl) ?_
              refine lv_lload hx hb dX2_warmUp_204 (lv_at hl 0 rfl) ?_
              refine lv_ladd hx hb dX2_warmUp_206 ?_
              refine lv_topl (fun y62 ey62 => ?_)
              refine lv_lmul hx hb dX2_warmUp_207 ?_
              refine lv_topl (fun y63 ey63 => ?_)
              refine lv_ladd hx hb dX2_warmUp_208 ?_
              refine lv_topl (fun y64 ey64 => ?_)
              refine lv_lstore_n (lv' := [(3, .long y64), (16, .long y43), (14, .long y32), (12, .long y21), (11, .ref a13), (10, .ref a10), (9, .int x1), (7, .long y2), (5, .long y3), (0, .ref p0), (1, .ref p1), (2, .int p2)]) hx hb dX2_warmUp_209 rfl hl (by decide) rfl (fun ls hl => ?_)
              refine lv_lload hx hb dX2_warmUp_210 (lv_at hl 8 rfl) ?_
              refine lv_ldc2 hx hb hown hkl101 dX2_warmUp_212 ?_
              refine lv_lload hx hb dX2_warmUp_215 (lv_at hl 2 rfl) ?_
              refine lv_lload hx hb dX2_warmUp_217 (lv_at hl 1 rfl) ?_
              refine lv_ladd hx hb dX2_warmUp_219 ?_
              refine lv_topl (fun y65 ey65 => ?_)
              refine lv_lmul hx hb dX2_warmUp_220 ?_
              refine lv_topl (fun y66 ey66 => ?_)
              refine lv_ladd hx hb dX2_warmUp_221 ?_
              refine lv_topl (fun y67 ey67 => ?_)
              refine lv_lstore (lv' := [(5, .long y67), (3, .long y64), (16, .long y43), (14, .long y32), (12, .long y21), (11, .ref a13), (10, .ref a10), (9, .int x1), (7, .long y2), (0, .ref p0), (1, .ref p1), (2, .int p2)]) hx hb dX2_warmUp_222 hl (by decide) rfl (fun ls hl => ?_)
              refine lv_lload hx hb dX2_warmUp_224 (lv_at hl 8 rfl) ?_
              refine lv_ldc2 hx hb hown hkl101 dX2_warmUp_226 ?_
              refine lv_aload hx hb dX2_warmUp_229 (lv_at hl 6 rfl) ?_
              refine gf_5_1 hx hb hts hin5 hown hK hT ka10 hfl75 dX2_warmUp_231 (fun x68 kx68 fvx68 => ?_)
              obtain rfl : x44 = x68 := eInt (FV.eq fvx44 fvx68)
              refine lv_iconst (v := (2 : Int32)) hx hb dX2_warmUp_234 (by decide) ?_
              have J251 : ∀ (H : Heap) (locs : List Loc) (ls : Array Slot) (y69 : Int64), (TW D cy κ G H) → (va_S (AA κ) s.heap H locs) → (lv_has ls 18 [(5, .long y67), (3, .long y64), (16, .long y43), (14, .long y32), (12, .long y21), (11, .ref a13), (10, .ref a10), (9, .int x1), (7, .long y2), (0, .ref p0), (1, .ref p1), (2, .int p2)]) → W p l e rmX2_warmUp s m args below meth c H locs 0 0 Q (F0 m 251 ls [.long y69, .long (2 : Int64), .long y2]) := by
                intro H locs ls y69 hT hS hl 
                refine lv_lmul hx hb dX2_warmUp_251 ?_
                refine lv_topl (fun y70 ey70 => ?_)
                refine lv_ladd hx hb dX2_warmUp_252 ?_
                refine lv_topl (fun y71 ey71 => ?_)
                refine lv_lstore (lv' := [(7, .long y71), (5, .long y67), (3, .long y64), (16, .long y43), (14, .long y32), (12, .long y21), (11, .ref a13), (10, .ref a10), (9, .int x1), (0, .ref p0), (1, .ref p1), (2, .int p2)]) hx hb dX2_warmUp_253 hl (by decide) rfl (fun ls hl => ?_)
                exact J255 H locs ls y71 y67 y64 hT hS (lv_sub hl [0, 1, 2, 3, 4, 5, 6, 7, 8, 9, 10, 11] rfl) 
              refine tb_icmp_ne (tgt := 246) hx hb dX2_warmUp_235 (by decide) (fun c72 => ?_) (fun c72 => ?_)
              · skip
                refine lv_lload hx hb dX2_warmUp_246 (lv_at hl 2 rfl) ?_
                refine lv_lload hx hb dX2_warmUp_248 (lv_at hl 3 rfl) ?_
                refine lv_lsub hx hb dX2_warmUp_250 ?_
                refine lv_topl (fun y73 ey73 => ?_)
                exact J251 H locs ls y73 hT hS (lv_sub hl [0, 1, 2, 3, 4, 5, 6, 7, 8, 9, 10, 11] rfl) 
              · skip
                refine lv_lload hx hb dX2_warmUp_238 (lv_at hl 3 rfl) ?_
                refine lv_lload hx hb dX2_warmUp_240 (lv_at hl 2 rfl) ?_
                refine lv_lsub hx hb dX2_warmUp_242 ?_
                refine lv_topl (fun y74 ey74 => ?_)
                refine lv_goto (tgt := 251) hx hb dX2_warmUp_243 (by decide) ?_
                exact J251 H locs ls y74 hT hS (lv_sub hl [0, 1, 2, 3, 4, 5, 6, 7, 8, 9, 10, 11] rfl) 
            · skip
              exact J149 H locs ls  hT hS (lv_sub hl [0, 1, 2, 3, 4, 5, 6, 7, 8, 9, 10, 11] rfl) 
    exact L11 _ H locs ls (0 : Int32) (0 : Int64) (0 : Int64) (0 : Int64) rfl hT hS (lv_sub hl [0, 1, 2, 3, 4, 5, 6] rfl) (by omega)
  exact main s.heap [] hT va_S.rf

abbrev rmX2_worstLimit : Room := { frames := 0, cells := 0, slots := 0, locals := 0 }
set_option maxHeartbeats 4000000 in
set_option maxRecDepth 100000 in
theorem c_X2_worstLimit (l : Launch) (D : va_G) (cy : Nat → ClassId) (κ : Nat → Nat) (G : Gh) (p0 : Nat) (k0 : κ p0 = 3) : Met l yX2_worstLimit wsX2_worstLimit rmX2_worstLimit (va_Pc [.ref p0] (fun U => WW D cy κ G U)) (va_Ql (fun (r : Int64) (u : Gh) => u = G ∧ (True)) (fun u t => WW D cy κ u t) (AA κ)) 0 0 (AA κ) := by
  refine Met.twl (cc := cX2_worstLimit) (maxL := 1) (by decide) rfl (Nat.le_of_ble_eq_true rfl) ?_
  intro p e s m args below meth c Q hx hb hml hown hts hK hT hret ls hl
  have hl : lv_has ls 1 [(0, .ref p0)] := hl
  have hkl101 := hts (.constantLong RX2 101 (2)) (by decide +kernel)
  have hlk101 : (2 : Int64).toInt = 2 := rfl
  have hfl32 := hts (.fieldLink RX2 32 "PlyPlates$Flat" "below" "J") (by decide +kernel)
  have hin2 : ∀ w ∈ u_ws RX2 TX2 13, w ∈ wsX2_worstLimit := by decide +kernel
  have hfl52 := hts (.fieldLink RX2 52 "PlyPlates$Flat" "worstStrength" "I") (by decide +kernel)
  have main : ∀ (H : Heap) (locs : List Loc), TW D cy κ G H → va_S (AA κ) s.heap H locs → W p l e rmX2_worstLimit s m args below meth c H locs 0 0 Q (F0 m 0 ls []) := by
    intro H locs hT hS
    refine lv_ldc2 hx hb hown hkl101 dX2_worstLimit_0 ?_
    refine lv_aload_n hx hb dX2_worstLimit_3 rfl (lv_at hl 0 rfl) ?_
    refine gf_2_6 hx hb hts hin2 hown hK hT k0 hfl32 dX2_worstLimit_4 (fun y1 ky1 fvy1 => ?_)
    refine lv_lmul hx hb dX2_worstLimit_7 ?_
    refine lv_topl (fun y2 ey2 => ?_)
    refine lv_aload_n hx hb dX2_worstLimit_8 rfl (lv_at hl 0 rfl) ?_
    refine gf_2_12 hx hb hts hin2 hown hK hT k0 hfl52 dX2_worstLimit_9 (fun x3 kx3 fvx3 => ?_)
    refine lv_i2l hx hb dX2_worstLimit_12 rfl ?_
    refine lv_topl (fun y4 ey4 => ?_)
    have ty4 : y4.toInt = x3.toInt := by rw [ey4]; exact Int32.toInt_toInt64 x3
    refine lv_lmul hx hb dX2_worstLimit_13 ?_
    refine lv_topl (fun y5 ey5 => ?_)
    exact hret H locs ls 14 y5 G dX2_worstLimit_14 ⟨rfl, trivial⟩ hT hS
  exact main s.heap [] hT va_S.rf

abbrev rmX2_offer : Room := { frames := 0, cells := 0, slots := 0, locals := 0 }
set_option maxHeartbeats 4000000 in
set_option maxRecDepth 100000 in
theorem c_X2_offer (l : Launch) (D : va_G) (cy : Nat → ClassId) (κ : Nat → Nat) (G : Gh) (p0 : Nat) (k0 : κ p0 = 3) (p1 : Int32) (p2 : Int32) (q2 : 0 ≤ p2.toInt ∧ p2.toInt ≤ 4) (p3 : Int64) (p4 : Nat) (k4 : κ p4 = 1005) : Met l yX2_offer wsX2_offer rmX2_offer (va_Pc [.ref p0, .int p1, .int p2, .long p3, .ref p4] (fun U => WW D cy κ G U)) (va_Qv (fun u : Gh => u = G ∧ (True)) (fun u t => WW D cy κ u t) (AA κ)) 0 0 (AA κ) := by
  refine Met.twv (cc := cX2_offer) (maxL := 7) (by decide) rfl (Nat.le_of_ble_eq_true rfl) ?_
  intro p e s m args below meth c Q hx hb hml hown hts hK hT hret ls hl
  have hl : lv_has ls 7 [(0, .ref p0), (1, .int p1), (2, .int p2), (3, .long p3), (5, .ref p4)] := hl
  have hfl52 := hts (.fieldLink RX2 52 "PlyPlates$Flat" "worstStrength" "I") (by decide +kernel)
  have hin2 : ∀ w ∈ u_ws RX2 TX2 13, w ∈ wsX2_offer := by decide +kernel
  have hfl49 := hts (.fieldLink RX2 49 "PlyPlates$Flat" "worstStress" "J") (by decide +kernel)
  have hc10 : (10 : Int32).toInt = 10 := rfl
  have hfl45 := hts (.fieldLink RX2 45 "PlyPlates$Flat" "worstPlace" "I") (by decide +kernel)
  have main : ∀ (H : Heap) (locs : List Loc), TW D cy κ G H → va_S (AA κ) s.heap H locs → W p l e rmX2_offer s m args below meth c H locs 0 0 Q (F0 m 0 ls []) := by
    intro H locs hT hS
    refine lv_aload hx hb dX2_offer_0 (lv_at hl 4 rfl) ?_
    refine lv_iload_n hx hb dX2_offer_2 rfl (lv_at hl 2 rfl) ?_
    refine tw_ia (K := 1005) (n := 5) (P := fun _ => True) hx hb hK hT k4 (by decide) rfl rfl (by omega) rfl dX2_offer_3 (fun x1 _ fvx1 => ?_)
    refine lv_istore (lv' := [(6, .int x1), (0, .ref p0), (1, .int p1), (2, .int p2), (3, .long p3), (5, .ref p4)]) hx hb dX2_offer_4 hl (by decide) rfl (fun ls hl => ?_)
    refine lv_lload_n hx hb dX2_offer_6 rfl (lv_at hl 4 rfl) ?_
    refine lv_aload_n hx hb dX2_offer_7 rfl (lv_at hl 1 rfl) ?_
    refine gf_2_12 hx hb hts hin2 hown hK hT k0 hfl52 dX2_offer_8 (fun x2 kx2 fvx2 => ?_)
    refine lv_i2l hx hb dX2_offer_11 rfl ?_
    refine lv_topl (fun y3 ey3 => ?_)
    have ty3 : y3.toInt = x2.toInt := by rw [ey3]; exact Int32.toInt_toInt64 x2
    refine lv_lmul hx hb dX2_offer_12 ?_
    refine lv_topl (fun y4 ey4 => ?_)
    refine lv_aload_n hx hb dX2_offer_13 rfl (lv_at hl 1 rfl) ?_
    refine gf_2_11 hx hb hts hin2 hown hK hT k0 hfl49 dX2_offer_14 (fun y5 ky5 fvy5 => ?_)
    refine lv_iload hx hb dX2_offer_17 (lv_at hl 0 rfl) ?_
    refine lv_i2l hx hb dX2_offer_19 rfl ?_
    refine lv_topl (fun y6 ey6 => ?_)
    have ty6 : y6.toInt = x1.toInt := by rw [ey6]; exact Int32.toInt_toInt64 x1
    refine lv_lmul hx hb dX2_offer_20 ?_
    refine lv_topl (fun y7 ey7 => ?_)
    refine tb_lcmp2 hx hb dX2_offer_21 (fun x8 tx8 ux8 => ?_)
    refine tb_if_le (tgt := 46) hx hb dX2_offer_22 (by decide) (fun c9 => ?_) (fun c9 => ?_)
    · skip
      exact hret H locs ls 46 G dX2_offer_46 ⟨rfl, trivial⟩ hT hS
    · skip
      refine lv_aload_n hx hb dX2_offer_25 rfl (lv_at hl 1 rfl) ?_
      refine lv_bipush (v := (10 : Int32)) hx hb dX2_offer_26 (by decide) ?_
      refine lv_iload_n hx hb dX2_offer_28 rfl (lv_at hl 2 rfl) ?_
      refine lv_imul hx hb dX2_offer_29 ?_
      refine lv_topi (fun x10 ex10 => ?_)
      have tx10 : x10.toInt = ((10 : Int32) * p1).toInt := by rw [ex10]
      refine lv_iload_n hx hb dX2_offer_30 rfl (lv_at hl 3 rfl) ?_
      refine lv_iadd hx hb dX2_offer_31 ?_
      refine lv_topi (fun x11 ex11 => ?_)
      have tx11 : x11.toInt = (x10 + p2).toInt := by rw [ex11]
      refine pf_2_10 hx hb hts hin2 hown hK hT hS k0 hfl45 dX2_offer_32 (fun H locs hT hS => ?_)
      refine lv_aload_n hx hb dX2_offer_35 rfl (lv_at hl 1 rfl) ?_
      refine lv_lload_n hx hb dX2_offer_36 rfl (lv_at hl 4 rfl) ?_
      refine pf_2_11 hx hb hts hin2 hown hK hT hS k0 hfl49 dX2_offer_37 (fun H locs hT hS => ?_)
      refine lv_aload_n hx hb dX2_offer_40 rfl (lv_at hl 1 rfl) ?_
      refine lv_iload hx hb dX2_offer_41 (lv_at hl 0 rfl) ?_
      refine pf_2_12 hx hb hts hin2 hown hK hT hS k0 hfl52 dX2_offer_43 (fun H locs hT hS => ?_)
      exact hret H locs ls 46 G dX2_offer_46 ⟨rfl, trivial⟩ hT hS
  exact main s.heap [] hT va_S.rf

abbrev rmX2_stressBy : Room := { frames := 0, cells := 0, slots := 0, locals := 0 }
set_option maxHeartbeats 4000000 in
set_option maxRecDepth 100000 in
theorem c_X2_stressBy (l : Launch) (D : va_G) (cy : Nat → ClassId) (κ : Nat → Nat) (G : Gh) (p0 : Nat) (k0 : κ p0 = 3) (p1 : Int64) (p2 : Int64) (p3 : Int64) : Met l yX2_stressBy wsX2_stressBy rmX2_stressBy (va_Pc [.ref p0, .long p1, .long p2, .long p3] (fun U => WW D cy κ G U)) (va_Qv (fun u : Gh => u = G ∧ (True)) (fun u t => WW D cy κ u t) (AA κ)) 0 0 (AA κ) := by
  refine Met.twv (cc := cX2_stressBy) (maxL := 7) (by decide) rfl (Nat.le_of_ble_eq_true rfl) ?_
  intro p e s m args below meth c Q hx hb hml hown hts hK hT hret ls hl
  have hl : lv_has ls 7 [(0, .ref p0), (1, .long p1), (3, .long p2), (5, .long p3)] := hl
  have hfl12 := hts (.fieldLink RX2 12 "PlyPlates$Flat" "left" "LPlyPlates$Left;") (by decide +kernel)
  have hin2 : ∀ w ∈ u_ws RX2 TX2 13, w ∈ wsX2_stressBy := by decide +kernel
  have hfl120 := hts (.fieldLink RX2 120 "PlyPlates$Left" "q11" "I") (by decide +kernel)
  have hin6 : ∀ w ∈ u_ws RX6 TX6 4, w ∈ wsX2_stressBy := by decide +kernel
  have hfl128 := hts (.fieldLink RX2 128 "PlyPlates$Left" "q12" "I") (by decide +kernel)
  have hfl36 := hts (.fieldLink RX2 36 "PlyPlates$Flat" "stress1" "J") (by decide +kernel)
  have hfl134 := hts (.fieldLink RX2 134 "PlyPlates$Left" "q22" "I") (by decide +kernel)
  have hfl39 := hts (.fieldLink RX2 39 "PlyPlates$Flat" "stress2" "J") (by decide +kernel)
  have hfl170 := hts (.fieldLink RX2 170 "PlyPlates$Left" "q66" "I") (by decide +kernel)
  have hfl42 := hts (.fieldLink RX2 42 "PlyPlates$Flat" "stress6" "J") (by decide +kernel)
  have main : ∀ (H : Heap) (locs : List Loc), TW D cy κ G H → va_S (AA κ) s.heap H locs → W p l e rmX2_stressBy s m args below meth c H locs 0 0 Q (F0 m 0 ls []) := by
    intro H locs hT hS
    refine lv_aload_n hx hb dX2_stressBy_0 rfl (lv_at hl 0 rfl) ?_
    refine lv_aload_n hx hb dX2_stressBy_1 rfl (lv_at hl 0 rfl) ?_
    refine gf_2_1 hx hb hts hin2 hown hK hT k0 hfl12 dX2_stressBy_2 (fun a1 ka1 fva1 => ?_)
    refine gf_6_0 hx hb hts hin6 hown hK hT ka1 hfl120 dX2_stressBy_5 (fun x2 kx2 fvx2 => ?_)
    refine lv_i2l hx hb dX2_stressBy_8 rfl ?_
    refine lv_topl (fun y3 ey3 => ?_)
    have ty3 : y3.toInt = x2.toInt := by rw [ey3]; exact Int32.toInt_toInt64 x2
    refine lv_lload_n hx hb dX2_stressBy_9 rfl (lv_at hl 1 rfl) ?_
    refine lv_lmul hx hb dX2_stressBy_10 ?_
    refine lv_topl (fun y4 ey4 => ?_)
    refine lv_aload_n hx hb dX2_stressBy_11 rfl (lv_at hl 0 rfl) ?_
    refine gf_2_1 hx hb hts hin2 hown hK hT k0 hfl12 dX2_stressBy_12 (fun a5 ka5 fva5 => ?_)
    obtain rfl : a1 = a5 := eRef (FV.eq fva1 fva5)
    refine gf_6_2 hx hb hts hin6 hown hK hT ka1 hfl128 dX2_stressBy_15 (fun x6 kx6 fvx6 => ?_)
    refine lv_i2l hx hb dX2_stressBy_18 rfl ?_
    refine lv_topl (fun y7 ey7 => ?_)
    have ty7 : y7.toInt = x6.toInt := by rw [ey7]; exact Int32.toInt_toInt64 x6
    refine lv_lload_n hx hb dX2_stressBy_19 rfl (lv_at hl 2 rfl) ?_
    refine lv_lmul hx hb dX2_stressBy_20 ?_
    refine lv_topl (fun y8 ey8 => ?_)
    refine lv_ladd hx hb dX2_stressBy_21 ?_
    refine lv_topl (fun y9 ey9 => ?_)
    refine pf_2_7 hx hb hts hin2 hown hK hT hS k0 hfl36 dX2_stressBy_22 (fun H locs hT hS => ?_)
    refine lv_aload_n hx hb dX2_stressBy_25 rfl (lv_at hl 0 rfl) ?_
    refine lv_aload_n hx hb dX2_stressBy_26 rfl (lv_at hl 0 rfl) ?_
    refine gf_2_1 hx hb hts hin2 hown hK hT k0 hfl12 dX2_stressBy_27 (fun a10 ka10 fva10 => ?_)
    refine gf_6_2 hx hb hts hin6 hown hK hT ka10 hfl128 dX2_stressBy_30 (fun x11 kx11 fvx11 => ?_)
    refine lv_i2l hx hb dX2_stressBy_33 rfl ?_
    refine lv_topl (fun y12 ey12 => ?_)
    have ty12 : y12.toInt = x11.toInt := by rw [ey12]; exact Int32.toInt_toInt64 x11
    refine lv_lload_n hx hb dX2_stressBy_34 rfl (lv_at hl 1 rfl) ?_
    refine lv_lmul hx hb dX2_stressBy_35 ?_
    refine lv_topl (fun y13 ey13 => ?_)
    refine lv_aload_n hx hb dX2_stressBy_36 rfl (lv_at hl 0 rfl) ?_
    refine gf_2_1 hx hb hts hin2 hown hK hT k0 hfl12 dX2_stressBy_37 (fun a14 ka14 fva14 => ?_)
    obtain rfl : a10 = a14 := eRef (FV.eq fva10 fva14)
    refine gf_6_1 hx hb hts hin6 hown hK hT ka10 hfl134 dX2_stressBy_40 (fun x15 kx15 fvx15 => ?_)
    refine lv_i2l hx hb dX2_stressBy_43 rfl ?_
    refine lv_topl (fun y16 ey16 => ?_)
    have ty16 : y16.toInt = x15.toInt := by rw [ey16]; exact Int32.toInt_toInt64 x15
    refine lv_lload_n hx hb dX2_stressBy_44 rfl (lv_at hl 2 rfl) ?_
    refine lv_lmul hx hb dX2_stressBy_45 ?_
    refine lv_topl (fun y17 ey17 => ?_)
    refine lv_ladd hx hb dX2_stressBy_46 ?_
    refine lv_topl (fun y18 ey18 => ?_)
    refine pf_2_8 hx hb hts hin2 hown hK hT hS k0 hfl39 dX2_stressBy_47 (fun H locs hT hS => ?_)
    refine lv_aload_n hx hb dX2_stressBy_50 rfl (lv_at hl 0 rfl) ?_
    refine lv_aload_n hx hb dX2_stressBy_51 rfl (lv_at hl 0 rfl) ?_
    refine gf_2_1 hx hb hts hin2 hown hK hT k0 hfl12 dX2_stressBy_52 (fun a19 ka19 fva19 => ?_)
    refine gf_6_3 hx hb hts hin6 hown hK hT ka19 hfl170 dX2_stressBy_55 (fun x20 kx20 fvx20 => ?_)
    refine lv_i2l hx hb dX2_stressBy_58 rfl ?_
    refine lv_topl (fun y21 ey21 => ?_)
    have ty21 : y21.toInt = x20.toInt := by rw [ey21]; exact Int32.toInt_toInt64 x20
    refine lv_lload hx hb dX2_stressBy_59 (lv_at hl 3 rfl) ?_
    refine lv_lmul hx hb dX2_stressBy_61 ?_
    refine lv_topl (fun y22 ey22 => ?_)
    refine pf_2_9 hx hb hts hin2 hown hK hT hS k0 hfl42 dX2_stressBy_62 (fun H locs hT hS => ?_)
    exact hret H locs ls 65 G dX2_stressBy_65 ⟨rfl, trivial⟩ hT hS
  exact main s.heap [] hT va_S.rf

abbrev rmX2_reckonStress : Room := { frames := 1, cells := 0, slots := 0, locals := 26 }
set_option maxHeartbeats 4000000 in
set_option maxRecDepth 100000 in
theorem c_X2_reckonStress (l : Launch) (D : va_G) (cy : Nat → ClassId) (κ : Nat → Nat) (G : Gh) (p0 : Nat) (k0 : κ p0 = 3) (p1 : Nat) (k1 : κ p1 = 6) : Met l yX2_reckonStress wsX2_reckonStress rmX2_reckonStress (va_Pc [.ref p0, .ref p1] (fun U => WW D cy κ G U)) (va_Qv (fun u : Gh => u = G ∧ (True)) (fun u t => WW D cy κ u t) (AA κ)) 0 0 (AA κ) := by
  refine Met.twv (cc := cX2_reckonStress) (maxL := 8) (by decide) rfl (Nat.le_of_ble_eq_true rfl) ?_
  intro p e s m args below meth c Q hx hb hml hown hts hK hT hret ls hl
  have hl : lv_has ls 8 [(0, .ref p0), (1, .ref p1)] := hl
  have hfl12 := hts (.fieldLink RX2 12 "PlyPlates$Flat" "left" "LPlyPlates$Left;") (by decide +kernel)
  have hin2 : ∀ w ∈ u_ws RX2 TX2 13, w ∈ wsX2_reckonStress := by decide +kernel
  have hfl55 := hts (.fieldLink RX2 55 "PlyPlates$Flat" "stuffs" "[LPlyPlates$Stuff;") (by decide +kernel)
  have hfl63 := hts (.fieldLink RX2 63 "PlyPlates$Layer" "stuffNumber" "I") (by decide +kernel)
  have hin5 : ∀ w ∈ u_ws RX5 TX5 4, w ∈ wsX2_reckonStress := by decide +kernel
  have hfl68 := hts (.fieldLink RX2 68 "PlyPlates$Layer" "broken" "I") (by decide +kernel)
  have hfl29 := hts (.fieldLink RX2 29 "PlyPlates$Flat" "above" "[J") (by decide +kernel)
  have hc0 : (0 : Int32).toInt = 0 := rfl
  have hc1 : (1 : Int32).toInt = 1 := rfl
  have hc2 : (2 : Int32).toInt = 2 := rfl
  have hfl75 := hts (.fieldLink RX2 75 "PlyPlates$Layer" "way" "I") (by decide +kernel)
  have hkl101 := hts (.constantLong RX2 101 (2)) (by decide +kernel)
  have hlk101 : (2 : Int64).toInt = 2 := rfl
  have hkl168 := hts (.constantLong RX2 168 (-2)) (by decide +kernel)
  have hlk168 : (-2 : Int64).toInt = -2 := rfl
  have main : ∀ (H : Heap) (locs : List Loc), TW D cy κ G H → va_S (AA κ) s.heap H locs → W p l e rmX2_reckonStress s m args below meth c H locs 0 0 Q (F0 m 0 ls []) := by
    intro H locs hT hS
    refine lv_aload_n hx hb dX2_reckonStress_0 rfl (lv_at hl 0 rfl) ?_
    refine gf_2_1 hx hb hts hin2 hown hK hT k0 hfl12 dX2_reckonStress_1 (fun a1 ka1 fva1 => ?_)
    refine lv_aload_n hx hb dX2_reckonStress_4 rfl (lv_at hl 0 rfl) ?_
    refine gf_2_0 hx hb hts hin2 hown hK hT k0 hfl55 dX2_reckonStress_5 (fun a2 ka2 fva2 => ?_)
    refine lv_aload_n hx hb dX2_reckonStress_8 rfl (lv_at hl 1 rfl) ?_
    refine gf_5_0 hx hb hts hin5 hown hK hT k1 hfl63 dX2_reckonStress_9 (fun x3 kx3 fvx3 => ?_)
    refine tw_ra (K := 24) (t := 4) (ty := .object RX9) (n := 3) (P := fun b => κ b = 10) hx hb hK hT ka2 (by decide) rfl rfl rfl rfl (by omega) rfl dX2_reckonStress_12 (fun a4 ka4 fva4 => ?_)
    refine lv_aload_n hx hb dX2_reckonStress_13 rfl (lv_at hl 1 rfl) ?_
    refine gf_5_3 hx hb hts hin5 hown hK hT k1 hfl68 dX2_reckonStress_14 (fun x5 kx5 fvx5 => ?_)
    refine tw_Vv (q := (RX6, TX6, 4)) (As := [.ref a4, .int x5]) (rest := []) ⟨hx, hb, hml, hown, hts⟩ (c_X6_become l D cy κ G a1 ka1 a4 ka4 x5) (cwV 2 hts gX2_reckonStress_X6_become rfl rfl rfl (by decide +kernel) ⟨Nat.le_of_ble_eq_true rfl, Nat.le_of_ble_eq_true rfl⟩) hK hT hS ka1 (by decide) rfl rfl hl.1 rfl (Nat.le_of_ble_eq_true rfl) dX2_reckonStress_17 ⟨Nat.zero_le _, Nat.zero_le _⟩ (fun u7 H locs hpu7 hT hS => ?_)
    obtain ⟨huu7, qu7⟩ := hpu7
    rw [huu7] at hT
    refine lv_aload_n hx hb dX2_reckonStress_20 rfl (lv_at hl 0 rfl) ?_
    refine gf_2_5 hx hb hts hin2 hown hK hT k0 hfl29 dX2_reckonStress_21 (fun a8 ka8 fva8 => ?_)
    refine lv_iconst (v := (0 : Int32)) hx hb dX2_reckonStress_24 (by decide) ?_
    refine tw_la (K := 2003) (n := 3) (P := fun _ => True) hx hb hK hT ka8 (by decide) rfl rfl (by omega) rfl dX2_reckonStress_25 (fun y9 _ fvy9 => ?_)
    refine lv_lstore_n (lv' := [(2, .long y9), (0, .ref p0), (1, .ref p1)]) hx hb dX2_reckonStress_26 rfl hl (by decide) rfl (fun ls hl => ?_)
    refine lv_aload_n hx hb dX2_reckonStress_27 rfl (lv_at hl 1 rfl) ?_
    refine gf_2_5 hx hb hts hin2 hown hK hT k0 hfl29 dX2_reckonStress_28 (fun a10 ka10 fva10 => ?_)
    obtain rfl : a8 = a10 := eRef (FV.eq fva8 fva10)
    refine lv_iconst (v := (1 : Int32)) hx hb dX2_reckonStress_31 (by decide) ?_
    refine tw_la (K := 2003) (n := 3) (P := fun _ => True) hx hb hK hT ka8 (by decide) rfl rfl (by omega) rfl dX2_reckonStress_32 (fun y11 _ fvy11 => ?_)
    refine lv_lstore (lv' := [(4, .long y11), (2, .long y9), (0, .ref p0), (1, .ref p1)]) hx hb dX2_reckonStress_33 hl (by decide) rfl (fun ls hl => ?_)
    refine lv_aload_n hx hb dX2_reckonStress_35 rfl (lv_at hl 2 rfl) ?_
    refine gf_2_5 hx hb hts hin2 hown hK hT k0 hfl29 dX2_reckonStress_36 (fun a12 ka12 fva12 => ?_)
    obtain rfl : a8 = a12 := eRef (FV.eq fva8 fva12)
    refine lv_iconst (v := (2 : Int32)) hx hb dX2_reckonStress_39 (by decide) ?_
    refine tw_la (K := 2003) (n := 3) (P := fun _ => True) hx hb hK hT ka8 (by decide) rfl rfl (by omega) rfl dX2_reckonStress_40 (fun y13 _ fvy13 => ?_)
    refine lv_lstore (lv' := [(6, .long y13), (4, .long y11), (2, .long y9), (0, .ref p0), (1, .ref p1)]) hx hb dX2_reckonStress_41 hl (by decide) rfl (fun ls hl => ?_)
    refine lv_aload_n hx hb dX2_reckonStress_43 rfl (lv_at hl 4 rfl) ?_
    refine gf_5_1 hx hb hts hin5 hown hK hT k1 hfl75 dX2_reckonStress_44 (fun x14 kx14 fvx14 => ?_)
    rcases (show x14.toInt < 0 ∨ 2 < x14.toInt ∨ x14.toInt = 0 ∨ x14.toInt = 1 ∨ x14.toInt = 2 by omega) with c15 | c15 | c15 | c15 | c15
    · refine lv_tableOut (tgt := 153) hx hb dX2_reckonStress_47 (Or.inl c15) (by decide) ?_
      refine lv_aload_n hx hb dX2_reckonStress_153 rfl (lv_at hl 3 rfl) ?_
      refine lv_lload_n hx hb dX2_reckonStress_154 rfl (lv_at hl 2 rfl) ?_
      refine lv_lload hx hb dX2_reckonStress_155 (lv_at hl 1 rfl) ?_
      refine lv_ladd hx hb dX2_reckonStress_157 ?_
      refine lv_topl (fun y16 ey16 => ?_)
      refine lv_lload hx hb dX2_reckonStress_158 (lv_at hl 0 rfl) ?_
      refine lv_lsub hx hb dX2_reckonStress_160 ?_
      refine lv_topl (fun y17 ey17 => ?_)
      refine lv_lload_n hx hb dX2_reckonStress_161 rfl (lv_at hl 2 rfl) ?_
      refine lv_lload hx hb dX2_reckonStress_162 (lv_at hl 1 rfl) ?_
      refine lv_ladd hx hb dX2_reckonStress_164 ?_
      refine lv_topl (fun y18 ey18 => ?_)
      refine lv_lload hx hb dX2_reckonStress_165 (lv_at hl 0 rfl) ?_
      refine lv_ladd hx hb dX2_reckonStress_167 ?_
      refine lv_topl (fun y19 ey19 => ?_)
      refine lv_ldc2 hx hb hown hkl101 dX2_reckonStress_168 ?_
      refine lv_lload_n hx hb dX2_reckonStress_171 rfl (lv_at hl 2 rfl) ?_
      refine lv_lmul hx hb dX2_reckonStress_172 ?_
      refine lv_topl (fun y20 ey20 => ?_)
      refine lv_ldc2 hx hb hown hkl101 dX2_reckonStress_173 ?_
      refine lv_lload hx hb dX2_reckonStress_176 (lv_at hl 1 rfl) ?_
      refine lv_lmul hx hb dX2_reckonStress_178 ?_
      refine lv_topl (fun y21 ey21 => ?_)
      refine lv_lsub hx hb dX2_reckonStress_179 ?_
      refine lv_topl (fun y22 ey22 => ?_)
      refine tw_Vv (q := (RX2, TX2, 13)) (As := [.long y17, .long y19, .long y22]) (rest := []) ⟨hx, hb, hml, hown, hts⟩ (c_X2_stressBy l D cy κ G p0 k0 y17 y19 y22) (cwV 3 hts gX2_reckonStress_X2_stressBy rfl rfl rfl (by decide +kernel) ⟨Nat.le_of_ble_eq_true rfl, Nat.le_of_ble_eq_true rfl⟩) hK hT hS k0 (by decide) rfl rfl hl.1 rfl (Nat.le_of_ble_eq_true rfl) dX2_reckonStress_180 ⟨Nat.zero_le _, Nat.zero_le _⟩ (fun u24 H locs hpu24 hT hS => ?_)
      obtain ⟨huu24, qu24⟩ := hpu24
      rw [huu24] at hT
      exact hret H locs ls 183 G dX2_reckonStress_183 ⟨rfl, trivial⟩ hT hS
    · refine lv_tableOut (tgt := 153) hx hb dX2_reckonStress_47 (Or.inr c15) (by decide) ?_
      refine lv_aload_n hx hb dX2_reckonStress_153 rfl (lv_at hl 3 rfl) ?_
      refine lv_lload_n hx hb dX2_reckonStress_154 rfl (lv_at hl 2 rfl) ?_
      refine lv_lload hx hb dX2_reckonStress_155 (lv_at hl 1 rfl) ?_
      refine lv_ladd hx hb dX2_reckonStress_157 ?_
      refine lv_topl (fun y25 ey25 => ?_)
      refine lv_lload hx hb dX2_reckonStress_158 (lv_at hl 0 rfl) ?_
      refine lv_lsub hx hb dX2_reckonStress_160 ?_
      refine lv_topl (fun y26 ey26 => ?_)
      refine lv_lload_n hx hb dX2_reckonStress_161 rfl (lv_at hl 2 rfl) ?_
      refine lv_lload hx hb dX2_reckonStress_162 (lv_at hl 1 rfl) ?_
      refine lv_ladd hx hb dX2_reckonStress_164 ?_
      refine lv_topl (fun y27 ey27 => ?_)
      refine lv_lload hx hb dX2_reckonStress_165 (lv_at hl 0 rfl) ?_
      refine lv_ladd hx hb dX2_reckonStress_167 ?_
      refine lv_topl (fun y28 ey28 => ?_)
      refine lv_ldc2 hx hb hown hkl101 dX2_reckonStress_168 ?_
      refine lv_lload_n hx hb dX2_reckonStress_171 rfl (lv_at hl 2 rfl) ?_
      refine lv_lmul hx hb dX2_reckonStress_172 ?_
      refine lv_topl (fun y29 ey29 => ?_)
      refine lv_ldc2 hx hb hown hkl101 dX2_reckonStress_173 ?_
      refine lv_lload hx hb dX2_reckonStress_176 (lv_at hl 1 rfl) ?_
      refine lv_lmul hx hb dX2_reckonStress_178 ?_
      refine lv_topl (fun y30 ey30 => ?_)
      refine lv_lsub hx hb dX2_reckonStress_179 ?_
      refine lv_topl (fun y31 ey31 => ?_)
      refine tw_Vv (q := (RX2, TX2, 13)) (As := [.long y26, .long y28, .long y31]) (rest := []) ⟨hx, hb, hml, hown, hts⟩ (c_X2_stressBy l D cy κ G p0 k0 y26 y28 y31) (cwV 3 hts gX2_reckonStress_X2_stressBy rfl rfl rfl (by decide +kernel) ⟨Nat.le_of_ble_eq_true rfl, Nat.le_of_ble_eq_true rfl⟩) hK hT hS k0 (by decide) rfl rfl hl.1 rfl (Nat.le_of_ble_eq_true rfl) dX2_reckonStress_180 ⟨Nat.zero_le _, Nat.zero_le _⟩ (fun u33 H locs hpu33 hT hS => ?_)
      obtain ⟨huu33, qu33⟩ := hpu33
      rw [huu33] at hT
      exact hret H locs ls 183 G dX2_reckonStress_183 ⟨rfl, trivial⟩ hT hS
    · refine lv_tableIn (off := 25) (tgt := 72) hx hb dX2_reckonStress_47 (by omega) (by omega) (by rw [c15]; rfl) (by decide) ?_
      refine lv_aload_n hx hb dX2_reckonStress_72 rfl (lv_at hl 3 rfl) ?_
      refine lv_ldc2 hx hb hown hkl101 dX2_reckonStress_73 ?_
      refine lv_lload_n hx hb dX2_reckonStress_76 rfl (lv_at hl 2 rfl) ?_
      refine lv_lmul hx hb dX2_reckonStress_77 ?_
      refine lv_topl (fun y34 ey34 => ?_)
      refine lv_ldc2 hx hb hown hkl101 dX2_reckonStress_78 ?_
      refine lv_lload hx hb dX2_reckonStress_81 (lv_at hl 1 rfl) ?_
      refine lv_lmul hx hb dX2_reckonStress_83 ?_
      refine lv_topl (fun y35 ey35 => ?_)
      refine lv_ldc2 hx hb hown hkl101 dX2_reckonStress_84 ?_
      refine lv_lload hx hb dX2_reckonStress_87 (lv_at hl 0 rfl) ?_
      refine lv_lmul hx hb dX2_reckonStress_89 ?_
      refine lv_topl (fun y36 ey36 => ?_)
      refine tw_Vv (q := (RX2, TX2, 13)) (As := [.long y34, .long y35, .long y36]) (rest := []) ⟨hx, hb, hml, hown, hts⟩ (c_X2_stressBy l D cy κ G p0 k0 y34 y35 y36) (cwV 3 hts gX2_reckonStress_X2_stressBy rfl rfl rfl (by decide +kernel) ⟨Nat.le_of_ble_eq_true rfl, Nat.le_of_ble_eq_true rfl⟩) hK hT hS k0 (by decide) rfl rfl hl.1 rfl (Nat.le_of_ble_eq_true rfl) dX2_reckonStress_90 ⟨Nat.zero_le _, Nat.zero_le _⟩ (fun u38 H locs hpu38 hT hS => ?_)
      obtain ⟨huu38, qu38⟩ := hpu38
      rw [huu38] at hT
      refine lv_goto (tgt := 183) hx hb dX2_reckonStress_93 (by decide) ?_
      exact hret H locs ls 183 G dX2_reckonStress_183 ⟨rfl, trivial⟩ hT hS
    · refine lv_tableIn (off := 49) (tgt := 96) hx hb dX2_reckonStress_47 (by omega) (by omega) (by rw [c15]; rfl) (by decide) ?_
      refine lv_aload_n hx hb dX2_reckonStress_96 rfl (lv_at hl 3 rfl) ?_
      refine lv_ldc2 hx hb hown hkl101 dX2_reckonStress_97 ?_
      refine lv_lload hx hb dX2_reckonStress_100 (lv_at hl 1 rfl) ?_
      refine lv_lmul hx hb dX2_reckonStress_102 ?_
      refine lv_topl (fun y39 ey39 => ?_)
      refine lv_ldc2 hx hb hown hkl101 dX2_reckonStress_103 ?_
      refine lv_lload_n hx hb dX2_reckonStress_106 rfl (lv_at hl 2 rfl) ?_
      refine lv_lmul hx hb dX2_reckonStress_107 ?_
      refine lv_topl (fun y40 ey40 => ?_)
      refine lv_ldc2 hx hb hown hkl168 dX2_reckonStress_108 ?_
      refine lv_lload hx hb dX2_reckonStress_111 (lv_at hl 0 rfl) ?_
      refine lv_lmul hx hb dX2_reckonStress_113 ?_
      refine lv_topl (fun y41 ey41 => ?_)
      refine tw_Vv (q := (RX2, TX2, 13)) (As := [.long y39, .long y40, .long y41]) (rest := []) ⟨hx, hb, hml, hown, hts⟩ (c_X2_stressBy l D cy κ G p0 k0 y39 y40 y41) (cwV 3 hts gX2_reckonStress_X2_stressBy rfl rfl rfl (by decide +kernel) ⟨Nat.le_of_ble_eq_true rfl, Nat.le_of_ble_eq_true rfl⟩) hK hT hS k0 (by decide) rfl rfl hl.1 rfl (Nat.le_of_ble_eq_true rfl) dX2_reckonStress_114 ⟨Nat.zero_le _, Nat.zero_le _⟩ (fun u43 H locs hpu43 hT hS => ?_)
      obtain ⟨huu43, qu43⟩ := hpu43
      rw [huu43] at hT
      refine lv_goto (tgt := 183) hx hb dX2_reckonStress_117 (by decide) ?_
      exact hret H locs ls 183 G dX2_reckonStress_183 ⟨rfl, trivial⟩ hT hS
    · refine lv_tableIn (off := 73) (tgt := 120) hx hb dX2_reckonStress_47 (by omega) (by omega) (by rw [c15]; rfl) (by decide) ?_
      refine lv_aload_n hx hb dX2_reckonStress_120 rfl (lv_at hl 3 rfl) ?_
      refine lv_lload_n hx hb dX2_reckonStress_121 rfl (lv_at hl 2 rfl) ?_
      refine lv_lload hx hb dX2_reckonStress_122 (lv_at hl 1 rfl) ?_
      refine lv_ladd hx hb dX2_reckonStress_124 ?_
      refine lv_topl (fun y44 ey44 => ?_)
      refine lv_lload hx hb dX2_reckonStress_125 (lv_at hl 0 rfl) ?_
      refine lv_ladd hx hb dX2_reckonStress_127 ?_
      refine lv_topl (fun y45 ey45 => ?_)
      refine lv_lload_n hx hb dX2_reckonStress_128 rfl (lv_at hl 2 rfl) ?_
      refine lv_lload hx hb dX2_reckonStress_129 (lv_at hl 1 rfl) ?_
      refine lv_ladd hx hb dX2_reckonStress_131 ?_
      refine lv_topl (fun y46 ey46 => ?_)
      refine lv_lload hx hb dX2_reckonStress_132 (lv_at hl 0 rfl) ?_
      refine lv_lsub hx hb dX2_reckonStress_134 ?_
      refine lv_topl (fun y47 ey47 => ?_)
      refine lv_ldc2 hx hb hown hkl101 dX2_reckonStress_135 ?_
      refine lv_lload hx hb dX2_reckonStress_138 (lv_at hl 1 rfl) ?_
      refine lv_lmul hx hb dX2_reckonStress_140 ?_
      refine lv_topl (fun y48 ey48 => ?_)
      refine lv_ldc2 hx hb hown hkl101 dX2_reckonStress_141 ?_
      refine lv_lload_n hx hb dX2_reckonStress_144 rfl (lv_at hl 2 rfl) ?_
      refine lv_lmul hx hb dX2_reckonStress_145 ?_
      refine lv_topl (fun y49 ey49 => ?_)
      refine lv_lsub hx hb dX2_reckonStress_146 ?_
      refine lv_topl (fun y50 ey50 => ?_)
      refine tw_Vv (q := (RX2, TX2, 13)) (As := [.long y45, .long y47, .long y50]) (rest := []) ⟨hx, hb, hml, hown, hts⟩ (c_X2_stressBy l D cy κ G p0 k0 y45 y47 y50) (cwV 3 hts gX2_reckonStress_X2_stressBy rfl rfl rfl (by decide +kernel) ⟨Nat.le_of_ble_eq_true rfl, Nat.le_of_ble_eq_true rfl⟩) hK hT hS k0 (by decide) rfl rfl hl.1 rfl (Nat.le_of_ble_eq_true rfl) dX2_reckonStress_147 ⟨Nat.zero_le _, Nat.zero_le _⟩ (fun u52 H locs hpu52 hT hS => ?_)
      obtain ⟨huu52, qu52⟩ := hpu52
      rw [huu52] at hT
      refine lv_goto (tgt := 183) hx hb dX2_reckonStress_150 (by decide) ?_
      exact hret H locs ls 183 G dX2_reckonStress_183 ⟨rfl, trivial⟩ hT hS
  exact main s.heap [] hT va_S.rf

abbrev rmX2_findWorst : Room := { frames := 2, cells := 0, slots := 0, locals := 53 }
set_option maxHeartbeats 4000000 in
set_option maxRecDepth 100000 in
theorem c_X2_findWorst (l : Launch) (D : va_G) (cy : Nat → ClassId) (κ : Nat → Nat) (G : Gh) (p0 : Nat) (k0 : κ p0 = 3) (p1 : Nat) (k1 : κ p1 = 8) (p2 : Int32) (p3 : Int32) (p4 : Int32) : Met l yX2_findWorst wsX2_findWorst rmX2_findWorst (va_Pc [.ref p0, .ref p1, .int p2, .int p3, .int p4] (fun U => WW D cy κ G U)) (va_Qv (fun u : Gh => u = G ∧ (True)) (fun u t => WW D cy κ u t) (AA κ)) 0 0 (AA κ) := by
  refine Met.twv (cc := cX2_findWorst) (maxL := 8) (by decide) rfl (Nat.le_of_ble_eq_true rfl) ?_
  intro p e s m args below meth c Q hx hb hml hown hts hK hT hret ls hl
  have hl : lv_has ls 8 [(0, .ref p0), (1, .ref p1), (2, .int p2), (3, .int p3), (4, .int p4)] := hl
  have hcm1 : (-1 : Int32).toInt = -1 := rfl
  have hfl45 := hts (.fieldLink RX2 45 "PlyPlates$Flat" "worstPlace" "I") (by decide +kernel)
  have hin2 : ∀ w ∈ u_ws RX2 TX2 13, w ∈ wsX2_findWorst := by decide +kernel
  have hlc0 : (0 : Int64).toInt = 0 := rfl
  have hfl49 := hts (.fieldLink RX2 49 "PlyPlates$Flat" "worstStress" "J") (by decide +kernel)
  have hc1 : (1 : Int32).toInt = 1 := rfl
  have hfl52 := hts (.fieldLink RX2 52 "PlyPlates$Flat" "worstStrength" "I") (by decide +kernel)
  have hfl32 := hts (.fieldLink RX2 32 "PlyPlates$Flat" "below" "J") (by decide +kernel)
  have hc0 : (0 : Int32).toInt = 0 := rfl
  have hfl94 := hts (.fieldLink RX2 94 "PlyPlates$Plate" "size" "I") (by decide +kernel)
  have hin7 : ∀ w ∈ u_ws RX7 TX7 2, w ∈ wsX2_findWorst := by decide +kernel
  have hfl97 := hts (.fieldLink RX2 97 "PlyPlates$Plate" "layers" "[LPlyPlates$Layer;") (by decide +kernel)
  have hfl55 := hts (.fieldLink RX2 55 "PlyPlates$Flat" "stuffs" "[LPlyPlates$Stuff;") (by decide +kernel)
  have hfl63 := hts (.fieldLink RX2 63 "PlyPlates$Layer" "stuffNumber" "I") (by decide +kernel)
  have hin5 : ∀ w ∈ u_ws RX5 TX5 4, w ∈ wsX2_findWorst := by decide +kernel
  have hfl152 := hts (.fieldLink RX2 152 "PlyPlates$Stuff" "strengths" "[I") (by decide +kernel)
  have hin9 : ∀ w ∈ u_ws RX9 TX9 7, w ∈ wsX2_findWorst := by decide +kernel
  have hfl36 := hts (.fieldLink RX2 36 "PlyPlates$Flat" "stress1" "J") (by decide +kernel)
  have hml155 := hts (.methodLink RX2 155 Lib.MathLoose.abs_long.x) (by decide +kernel)
  have hmst := hts (.static Lib.MathLoose.abs_long.x) (by decide +kernel)
  have hmin := hts (.initialized "java/lang/Math") (by decide +kernel)
  have hmco := hts (.code Lib.MathLoose.abs_long.x Lib.MathLoose.abs_long.code 2 (some .long)) (by decide +kernel)
  have hfl39 := hts (.fieldLink RX2 39 "PlyPlates$Flat" "stress2" "J") (by decide +kernel)
  have hc4 : (4 : Int32).toInt = 4 := rfl
  have hfl42 := hts (.fieldLink RX2 42 "PlyPlates$Flat" "stress6" "J") (by decide +kernel)
  have hc3 : (3 : Int32).toInt = 3 := rfl
  have hc2 : (2 : Int32).toInt = 2 := rfl
  have main : ∀ (H : Heap) (locs : List Loc), TW D cy κ G H → va_S (AA κ) s.heap H locs → W p l e rmX2_findWorst s m args below meth c H locs 0 0 Q (F0 m 0 ls []) := by
    intro H locs hT hS
    refine lv_aload_n hx hb dX2_findWorst_0 rfl (lv_at hl 0 rfl) ?_
    refine lv_iconst (v := (-1 : Int32)) hx hb dX2_findWorst_1 (by decide) ?_
    refine pf_2_10 hx hb hts hin2 hown hK hT hS k0 hfl45 dX2_findWorst_2 (fun H locs hT hS => ?_)
    refine lv_aload_n hx hb dX2_findWorst_5 rfl (lv_at hl 0 rfl) ?_
    refine lv_lconst (v := 0) hx hb dX2_findWorst_6 (by decide) ?_
    refine pf_2_11 hx hb hts hin2 hown hK hT hS k0 hfl49 dX2_findWorst_7 (fun H locs hT hS => ?_)
    refine lv_aload_n hx hb dX2_findWorst_10 rfl (lv_at hl 0 rfl) ?_
    refine lv_iconst (v := (1 : Int32)) hx hb dX2_findWorst_11 (by decide) ?_
    refine pf_2_12 hx hb hts hin2 hown hK hT hS k0 hfl52 dX2_findWorst_12 (fun H locs hT hS => ?_)
    refine lv_aload_n hx hb dX2_findWorst_15 rfl (lv_at hl 0 rfl) ?_
    refine gf_2_6 hx hb hts hin2 hown hK hT k0 hfl32 dX2_findWorst_16 (fun y1 ky1 fvy1 => ?_)
    refine lv_lconst (v := 0) hx hb dX2_findWorst_19 (by decide) ?_
    refine tb_lcmp2 hx hb dX2_findWorst_20 (fun x2 tx2 ux2 => ?_)
    refine tb_if_ne (tgt := 25) hx hb dX2_findWorst_21 (by decide) (fun c3 => ?_) (fun c3 => ?_)
    · skip
      refine lv_aload_n hx hb dX2_findWorst_25 rfl (lv_at hl 0 rfl) ?_
      refine lv_iload_n hx hb dX2_findWorst_26 rfl (lv_at hl 2 rfl) ?_
      refine lv_iload_n hx hb dX2_findWorst_27 rfl (lv_at hl 3 rfl) ?_
      refine lv_iload hx hb dX2_findWorst_28 (lv_at hl 4 rfl) ?_
      refine tw_Vv (q := (RX2, TX2, 13)) (As := [.int p2, .int p3, .int p4]) (rest := []) ⟨hx, hb, hml, hown, hts⟩ (c_X2_pull l D cy κ G p0 k0 p2 p3 p4) (cwV 3 hts gX2_findWorst_X2_pull rfl rfl rfl (by decide +kernel) ⟨Nat.le_of_ble_eq_true rfl, Nat.le_of_ble_eq_true rfl⟩) hK hT hS k0 (by decide) rfl rfl hl.1 rfl (Nat.le_of_ble_eq_true rfl) dX2_findWorst_30 ⟨Nat.zero_le _, Nat.zero_le _⟩ (fun u5 H locs hpu5 hT hS => ?_)
      obtain ⟨huu5, qu5⟩ := hpu5
      rw [huu5] at hT
      refine lv_iconst (v := (0 : Int32)) hx hb dX2_findWorst_33 (by decide) ?_
      refine lv_istore (lv' := [(5, .int (0 : Int32)), (0, .ref p0), (1, .ref p1), (2, .int p2), (3, .int p3), (4, .int p4)]) hx hb dX2_findWorst_34 hl (by decide) rfl (fun ls hl => ?_)
      have L36 : ∀ (nn : Nat) (H : Heap) (locs : List Loc) (ls : Array Slot) (x6 : Int32), (nn = (2147483647 - x6.toInt).toNat) → (TW D cy κ G H) → (va_S (AA κ) s.heap H locs) → (lv_has ls 8 [(5, .int x6), (0, .ref p0), (1, .ref p1), (2, .int p2), (3, .int p3), (4, .int p4)]) → (0 ≤ x6.toInt ∧ x6.toInt ≤ 12) → W p l e rmX2_findWorst s m args below meth c H locs 0 0 Q (F0 m 36 ls []) := by
        intro nn
        induction nn using Nat.strongRecOn with
        | _ nn ih36 =>
          intro H locs ls x6 hnn hT hS hl fL36_0
          refine lv_iload hx hb dX2_findWorst_36 (lv_at hl 0 rfl) ?_
          refine lv_aload_n hx hb dX2_findWorst_38 rfl (lv_at hl 2 rfl) ?_
          refine gf_7_1 hx hb hts hin7 hown hK hT k1 hfl94 dX2_findWorst_39 (fun x7 kx7 fvx7 => ?_)
          have gx7 := congrArg Int32.toInt kx7.1
          refine tb_icmp_ge (tgt := 155) hx hb dX2_findWorst_42 (by decide) (fun c8 => ?_) (fun c8 => ?_)
          · skip
            exact hret H locs ls 155 G dX2_findWorst_155 ⟨rfl, trivial⟩ hT hS
          · skip
            refine lv_aload_n hx hb dX2_findWorst_45 rfl (lv_at hl 2 rfl) ?_
            refine gf_7_0 hx hb hts hin7 hown hK hT k1 hfl97 dX2_findWorst_46 (fun a9 ka9 fva9 => ?_)
            refine lv_iload hx hb dX2_findWorst_49 (lv_at hl 0 rfl) ?_
            refine tw_ra (K := 29) (t := 2) (ty := .object RX5) (n := 12) (P := fun b => κ b = 6) hx hb hK hT ka9 (by decide) rfl rfl rfl rfl (by omega) rfl dX2_findWorst_51 (fun a10 ka10 fva10 => ?_)
            refine lv_astore (lv' := [(6, .ref a10), (5, .int x6), (0, .ref p0), (1, .ref p1), (2, .int p2), (3, .int p3), (4, .int p4)]) hx hb dX2_findWorst_52 hl (by decide) rfl (fun ls hl => ?_)
            refine lv_aload_n hx hb dX2_findWorst_54 rfl (lv_at hl 2 rfl) ?_
            refine lv_aload hx hb dX2_findWorst_55 (lv_at hl 0 rfl) ?_
            refine tw_Vv (q := (RX2, TX2, 13)) (As := [.ref a10]) (rest := []) ⟨hx, hb, hml, hown, hts⟩ (c_X2_reckonStress l D cy κ G p0 k0 a10 ka10) (cwV 1 hts gX2_findWorst_X2_reckonStress rfl rfl rfl (by decide +kernel) ⟨Nat.le_of_ble_eq_true rfl, Nat.le_of_ble_eq_true rfl⟩) hK hT hS k0 (by decide) rfl rfl hl.1 rfl (Nat.le_of_ble_eq_true rfl) dX2_findWorst_57 ⟨Nat.zero_le _, Nat.zero_le _⟩ (fun u12 H locs hpu12 hT hS => ?_)
            obtain ⟨huu12, qu12⟩ := hpu12
            rw [huu12] at hT
            refine lv_aload_n hx hb dX2_findWorst_60 rfl (lv_at hl 2 rfl) ?_
            refine gf_2_0 hx hb hts hin2 hown hK hT k0 hfl55 dX2_findWorst_61 (fun a13 ka13 fva13 => ?_)
            refine lv_aload hx hb dX2_findWorst_64 (lv_at hl 0 rfl) ?_
            refine gf_5_0 hx hb hts hin5 hown hK hT ka10 hfl63 dX2_findWorst_66 (fun x14 kx14 fvx14 => ?_)
            refine tw_ra (K := 24) (t := 4) (ty := .object RX9) (n := 3) (P := fun b => κ b = 10) hx hb hK hT ka13 (by decide) rfl rfl rfl rfl (by omega) rfl dX2_findWorst_69 (fun a15 ka15 fva15 => ?_)
            refine gf_9_6 hx hb hts hin9 hown hK hT ka15 hfl152 dX2_findWorst_70 (fun a16 ka16 fva16 => ?_)
            refine lv_astore (lv' := [(7, .ref a16), (6, .ref a10), (5, .int x6), (0, .ref p0), (1, .ref p1), (2, .int p2), (3, .int p3), (4, .int p4)]) hx hb dX2_findWorst_73 hl (by decide) rfl (fun ls hl => ?_)
            refine lv_aload_n hx hb dX2_findWorst_75 rfl (lv_at hl 3 rfl) ?_
            refine lv_iload hx hb dX2_findWorst_76 (lv_at hl 2 rfl) ?_
            refine lv_aload_n hx hb dX2_findWorst_78 rfl (lv_at hl 3 rfl) ?_
            refine gf_2_7 hx hb hts hin2 hown hK hT k0 hfl36 dX2_findWorst_79 (fun y17 ky17 fvy17 => ?_)
            refine lv_lconst (v := 0) hx hb dX2_findWorst_82 (by decide) ?_
            refine tb_lcmp2 hx hb dX2_findWorst_83 (fun x18 tx18 ux18 => ?_)
            have J92 : ∀ (H : Heap) (locs : List Loc) (ls : Array Slot) (x19 : Int32), (TW D cy κ G H) → (va_S (AA κ) s.heap H locs) → (lv_has ls 8 [(7, .ref a16), (6, .ref a10), (5, .int x6), (0, .ref p0), (1, .ref p1), (2, .int p2), (3, .int p3), (4, .int p4)]) → (0 ≤ x19.toInt ∧ x19.toInt ≤ 1) → W p l e rmX2_findWorst s m args below meth c H locs 0 0 Q (F0 m 92 ls [.int x19, .int x6, .ref p0]) := by
              intro H locs ls x19 hT hS hl fJ92_0
              refine lv_aload_n hx hb dX2_findWorst_92 rfl (lv_at hl 3 rfl) ?_
              refine gf_2_7 hx hb hts hin2 hown hK hT k0 hfl36 dX2_findWorst_93 (fun y20 ky20 fvy20 => ?_)
              refine va_mabs_long hx hb (hml.trans hl.1.symm) hown hml155 hmst hmin hmco (Nat.le_of_ble_eq_true rfl) (Nat.le_of_ble_eq_true rfl) (Nat.zero_le _) (Nat.zero_le _) dX2_findWorst_96 ?_
              refine lv_topl (fun y21 _ => ?_)
              refine lv_aload hx hb dX2_findWorst_99 (lv_at hl 0 rfl) ?_
              refine tw_Vv (q := (RX2, TX2, 13)) (As := [.int x6, .int x19, .long y21, .ref a16]) (rest := []) ⟨hx, hb, hml, hown, hts⟩ (c_X2_offer l D cy κ G p0 k0 x6 x19 (by omega) y21 a16 ka16) (cwV 4 hts gX2_findWorst_X2_offer rfl rfl rfl (by decide +kernel) ⟨Nat.le_of_ble_eq_true rfl, Nat.le_of_ble_eq_true rfl⟩) hK hT hS k0 (by decide) rfl rfl hl.1 rfl (Nat.le_of_ble_eq_true rfl) dX2_findWorst_101 ⟨Nat.zero_le _, Nat.zero_le _⟩ (fun u23 H locs hpu23 hT hS => ?_)
              obtain ⟨huu23, qu23⟩ := hpu23
              rw [huu23] at hT
              refine lv_aload_n hx hb dX2_findWorst_104 rfl (lv_at hl 3 rfl) ?_
              refine lv_iload hx hb dX2_findWorst_105 (lv_at hl 2 rfl) ?_
              refine lv_aload_n hx hb dX2_findWorst_107 rfl (lv_at hl 3 rfl) ?_
              refine gf_2_8 hx hb hts hin2 hown hK hT k0 hfl39 dX2_findWorst_108 (fun y24 ky24 fvy24 => ?_)
              refine lv_lconst (v := 0) hx hb dX2_findWorst_111 (by decide) ?_
              refine tb_lcmp2 hx hb dX2_findWorst_112 (fun x25 tx25 ux25 => ?_)
              have J121 : ∀ (H : Heap) (locs : List Loc) (ls : Array Slot) (x26 : Int32), (TW D cy κ G H) → (va_S (AA κ) s.heap H locs) → (lv_has ls 8 [(7, .ref a16), (6, .ref a10), (5, .int x6), (0, .ref p0), (1, .ref p1), (2, .int p2), (3, .int p3), (4, .int p4)]) → (2 ≤ x26.toInt ∧ x26.toInt ≤ 3) → W p l e rmX2_findWorst s m args below meth c H locs 0 0 Q (F0 m 121 ls [.int x26, .int x6, .ref p0]) := by
                intro H locs ls x26 hT hS hl fJ121_0
                refine lv_aload_n hx hb dX2_findWorst_121 rfl (lv_at hl 3 rfl) ?_
                refine gf_2_8 hx hb hts hin2 hown hK hT k0 hfl39 dX2_findWorst_122 (fun y27 ky27 fvy27 => ?_)
                refine va_mabs_long hx hb (hml.trans hl.1.symm) hown hml155 hmst hmin hmco (Nat.le_of_ble_eq_true rfl) (Nat.le_of_ble_eq_true rfl) (Nat.zero_le _) (Nat.zero_le _) dX2_findWorst_125 ?_
                refine lv_topl (fun y28 _ => ?_)
                refine lv_aload hx hb dX2_findWorst_128 (lv_at hl 0 rfl) ?_
                refine tw_Vv (q := (RX2, TX2, 13)) (As := [.int x6, .int x26, .long y28, .ref a16]) (rest := []) ⟨hx, hb, hml, hown, hts⟩ (c_X2_offer l D cy κ G p0 k0 x6 x26 (by omega) y28 a16 ka16) (cwV 4 hts gX2_findWorst_X2_offer rfl rfl rfl (by decide +kernel) ⟨Nat.le_of_ble_eq_true rfl, Nat.le_of_ble_eq_true rfl⟩) hK hT hS k0 (by decide) rfl rfl hl.1 rfl (Nat.le_of_ble_eq_true rfl) dX2_findWorst_130 ⟨Nat.zero_le _, Nat.zero_le _⟩ (fun u30 H locs hpu30 hT hS => ?_)
                obtain ⟨huu30, qu30⟩ := hpu30
                rw [huu30] at hT
                refine lv_aload_n hx hb dX2_findWorst_133 rfl (lv_at hl 3 rfl) ?_
                refine lv_iload hx hb dX2_findWorst_134 (lv_at hl 2 rfl) ?_
                refine lv_iconst (v := (4 : Int32)) hx hb dX2_findWorst_136 (by decide) ?_
                refine lv_aload_n hx hb dX2_findWorst_137 rfl (lv_at hl 3 rfl) ?_
                refine gf_2_9 hx hb hts hin2 hown hK hT k0 hfl42 dX2_findWorst_138 (fun y31 ky31 fvy31 => ?_)
                refine va_mabs_long hx hb (hml.trans hl.1.symm) hown hml155 hmst hmin hmco (Nat.le_of_ble_eq_true rfl) (Nat.le_of_ble_eq_true rfl) (Nat.zero_le _) (Nat.zero_le _) dX2_findWorst_141 ?_
                refine lv_topl (fun y32 _ => ?_)
                refine lv_aload hx hb dX2_findWorst_144 (lv_at hl 0 rfl) ?_
                refine tw_Vv (q := (RX2, TX2, 13)) (As := [.int x6, .int (4 : Int32), .long y32, .ref a16]) (rest := []) ⟨hx, hb, hml, hown, hts⟩ (c_X2_offer l D cy κ G p0 k0 x6 (4 : Int32) (by omega) y32 a16 ka16) (cwV 4 hts gX2_findWorst_X2_offer rfl rfl rfl (by decide +kernel) ⟨Nat.le_of_ble_eq_true rfl, Nat.le_of_ble_eq_true rfl⟩) hK hT hS k0 (by decide) rfl rfl hl.1 rfl (Nat.le_of_ble_eq_true rfl) dX2_findWorst_146 ⟨Nat.zero_le _, Nat.zero_le _⟩ (fun u34 H locs hpu34 hT hS => ?_)
                obtain ⟨huu34, qu34⟩ := hpu34
                rw [huu34] at hT
                obtain ⟨x35, ex35⟩ : ∃ z : Int32, z = x6 + (1 : Int32) := ⟨_, rfl⟩
                refine lv_iinc (v := x35) (lv' := [(5, .int x35), (7, .ref a16), (6, .ref a10), (0, .ref p0), (1, .ref p1), (2, .int p2), (3, .int p3), (4, .int p4)]) hx hb dX2_findWorst_149 hl (k := 2) rfl (by rw [ex35]; rfl) (by decide) rfl (fun ls hl => ?_)
                have tx35 : x35.toInt = x6.toInt + 1 := by rw [ex35, ti_add (by have := i32b x6; have := i32b p2; have := i32b p3; have := i32b p4; omega), hc1]
                refine lv_goto (tgt := 36) hx hb dX2_findWorst_152 (by decide) ?_
                exact ih36 ((2147483647 - x35.toInt).toNat) (by have := i32b x35; have := i32b p2; have := i32b p3; have := i32b p4; omega) H locs ls x35 rfl hT hS (lv_sub hl [0, 3, 4, 5, 6, 7] rfl) (by omega)
              refine tb_if_le (tgt := 120) hx hb dX2_findWorst_113 (by decide) (fun c36 => ?_) (fun c36 => ?_)
              · skip
                refine lv_iconst (v := (3 : Int32)) hx hb dX2_findWorst_120 (by decide) ?_
                exact J121 H locs ls (3 : Int32) hT hS (lv_sub hl [0, 1, 2, 3, 4, 5, 6, 7] rfl) (by omega)
              · skip
                refine lv_iconst (v := (2 : Int32)) hx hb dX2_findWorst_116 (by decide) ?_
                refine lv_goto (tgt := 121) hx hb dX2_findWorst_117 (by decide) ?_
                exact J121 H locs ls (2 : Int32) hT hS (lv_sub hl [0, 1, 2, 3, 4, 5, 6, 7] rfl) (by omega)
            refine tb_if_le (tgt := 91) hx hb dX2_findWorst_84 (by decide) (fun c37 => ?_) (fun c37 => ?_)
            · skip
              refine lv_iconst (v := (1 : Int32)) hx hb dX2_findWorst_91 (by decide) ?_
              exact J92 H locs ls (1 : Int32) hT hS (lv_sub hl [0, 1, 2, 3, 4, 5, 6, 7] rfl) (by omega)
            · skip
              refine lv_iconst (v := (0 : Int32)) hx hb dX2_findWorst_87 (by decide) ?_
              refine lv_goto (tgt := 92) hx hb dX2_findWorst_88 (by decide) ?_
              exact J92 H locs ls (0 : Int32) hT hS (lv_sub hl [0, 1, 2, 3, 4, 5, 6, 7] rfl) (by omega)
      exact L36 _ H locs ls (0 : Int32) rfl hT hS (lv_sub hl [0, 1, 2, 3, 4, 5] rfl) (by omega)
    · skip
      exact hret H locs ls 24 G dX2_findWorst_24 ⟨rfl, trivial⟩ hT hS
  exact main s.heap [] hT va_S.rf

abbrev rmX2_isHeld : Room := { frames := 3, cells := 0, slots := 0, locals := 80 }
set_option maxHeartbeats 4000000 in
set_option maxRecDepth 100000 in
theorem c_X2_isHeld (l : Launch) (D : va_G) (cy : Nat → ClassId) (κ : Nat → Nat) (G : Gh) (p0 : Nat) (k0 : κ p0 = 3) (p1 : Nat) (k1 : κ p1 = 8) (p2 : Int32) (p3 : Int32) (p4 : Int32) : Met l yX2_isHeld wsX2_isHeld rmX2_isHeld (va_Pc [.ref p0, .ref p1, .int p2, .int p3, .int p4] (fun U => WW D cy κ G U)) (va_Qi (fun (r : Int32) (u : Gh) => u = G ∧ (0 ≤ r.toInt ∧ r.toInt ≤ 1)) (fun u t => WW D cy κ u t) (AA κ)) 0 0 (AA κ) := by
  refine Met.twz (cc := cX2_isHeld) (maxL := 5) (by decide) rfl (Nat.le_of_ble_eq_true rfl) ?_
  intro p e s m args below meth c Q hx hb hml hown hts hK hT hret ls hl
  have hl : lv_has ls 5 [(0, .ref p0), (1, .ref p1), (2, .int p2), (3, .int p3), (4, .int p4)] := hl
  have hfl32 := hts (.fieldLink RX2 32 "PlyPlates$Flat" "below" "J") (by decide +kernel)
  have hin2 : ∀ w ∈ u_ws RX2 TX2 13, w ∈ wsX2_isHeld := by decide +kernel
  have hlc0 : (0 : Int64).toInt = 0 := rfl
  have hc0 : (0 : Int32).toInt = 0 := rfl
  have hfl49 := hts (.fieldLink RX2 49 "PlyPlates$Flat" "worstStress" "J") (by decide +kernel)
  have hc1 : (1 : Int32).toInt = 1 := rfl
  have main : ∀ (H : Heap) (locs : List Loc), TW D cy κ G H → va_S (AA κ) s.heap H locs → W p l e rmX2_isHeld s m args below meth c H locs 0 0 Q (F0 m 0 ls []) := by
    intro H locs hT hS
    refine lv_aload_n hx hb dX2_isHeld_0 rfl (lv_at hl 0 rfl) ?_
    refine lv_aload_n hx hb dX2_isHeld_1 rfl (lv_at hl 1 rfl) ?_
    refine lv_iload_n hx hb dX2_isHeld_2 rfl (lv_at hl 2 rfl) ?_
    refine lv_iload_n hx hb dX2_isHeld_3 rfl (lv_at hl 3 rfl) ?_
    refine lv_iload hx hb dX2_isHeld_4 (lv_at hl 4 rfl) ?_
    refine tw_Vv (q := (RX2, TX2, 13)) (As := [.ref p1, .int p2, .int p3, .int p4]) (rest := []) ⟨hx, hb, hml, hown, hts⟩ (c_X2_findWorst l D cy κ G p0 k0 p1 k1 p2 p3 p4) (cwV 4 hts gX2_isHeld_X2_findWorst rfl rfl rfl (by decide +kernel) ⟨Nat.le_of_ble_eq_true rfl, Nat.le_of_ble_eq_true rfl⟩) hK hT hS k0 (by decide) rfl rfl hl.1 rfl (Nat.le_of_ble_eq_true rfl) dX2_isHeld_6 ⟨Nat.zero_le _, Nat.zero_le _⟩ (fun u2 H locs hpu2 hT hS => ?_)
    obtain ⟨huu2, qu2⟩ := hpu2
    rw [huu2] at hT
    refine lv_aload_n hx hb dX2_isHeld_9 rfl (lv_at hl 0 rfl) ?_
    refine gf_2_6 hx hb hts hin2 hown hK hT k0 hfl32 dX2_isHeld_10 (fun y3 ky3 fvy3 => ?_)
    refine lv_lconst (v := 0) hx hb dX2_isHeld_13 (by decide) ?_
    refine tb_lcmp2 hx hb dX2_isHeld_14 (fun x4 tx4 ux4 => ?_)
    refine tb_if_eq (tgt := 34) hx hb dX2_isHeld_15 (by decide) (fun c5 => ?_) (fun c5 => ?_)
    · skip
      refine lv_iconst (v := (0 : Int32)) hx hb dX2_isHeld_34 (by decide) ?_
      exact hret H locs ls 35 (0 : Int32) G dX2_isHeld_35 (by omega) ⟨rfl, by omega⟩ hT hS
    · skip
      refine lv_aload_n hx hb dX2_isHeld_18 rfl (lv_at hl 0 rfl) ?_
      refine gf_2_11 hx hb hts hin2 hown hK hT k0 hfl49 dX2_isHeld_19 (fun y6 ky6 fvy6 => ?_)
      refine lv_aload_n hx hb dX2_isHeld_22 rfl (lv_at hl 0 rfl) ?_
      refine tw_Vl (q := (RX2, TX2, 13)) (As := []) (rest := [.long y6]) ⟨hx, hb, hml, hown, hts⟩ (c_X2_worstLimit l D cy κ G p0 k0) (cwV 0 hts gX2_isHeld_X2_worstLimit rfl rfl rfl (by decide +kernel) ⟨Nat.le_of_ble_eq_true rfl, Nat.le_of_ble_eq_true rfl⟩) hK hT hS k0 (by decide) rfl rfl hl.1 rfl (Nat.le_of_ble_eq_true rfl) dX2_isHeld_23 ⟨Nat.zero_le _, Nat.zero_le _⟩ (fun y7 u8 H locs hpu8 hT hS => ?_)
      obtain ⟨huu8, qu8⟩ := hpu8
      rw [huu8] at hT
      refine tb_lcmp2 hx hb dX2_isHeld_26 (fun x9 tx9 ux9 => ?_)
      refine tb_if_gt (tgt := 34) hx hb dX2_isHeld_27 (by decide) (fun c10 => ?_) (fun c10 => ?_)
      · skip
        refine lv_iconst (v := (0 : Int32)) hx hb dX2_isHeld_34 (by decide) ?_
        exact hret H locs ls 35 (0 : Int32) G dX2_isHeld_35 (by omega) ⟨rfl, by omega⟩ hT hS
      · skip
        refine lv_iconst (v := (1 : Int32)) hx hb dX2_isHeld_30 (by decide) ?_
        refine lv_goto (tgt := 35) hx hb dX2_isHeld_31 (by decide) ?_
        exact hret H locs ls 35 (1 : Int32) G dX2_isHeld_35 (by omega) ⟨rfl, by omega⟩ hT hS
  exact main s.heap [] hT va_S.rf
