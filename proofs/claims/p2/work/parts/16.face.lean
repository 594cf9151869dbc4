abbrev rmX10_isLoad : Room := { frames := 1, cells := 0, slots := 0, locals := 22 }
set_option maxHeartbeats 4000000 in
set_option maxRecDepth 100000 in
theorem c_X10_isLoad (l : Launch) (D : va_G) (cy : Nat → ClassId) (κ : Nat → Nat) (G : Gh) (p0 : Int32) (p1 : Int32) (p2 : Int32) : Met l yX10_isLoad wsX10_isLoad rmX10_isLoad (va_Pc [.int p0, .int p1, .int p2] (fun U => WW D cy κ G U)) (va_Qi (fun (r : Int32) (u : Gh) => u = G ∧ (r.toInt = 1 ∧ -100 ≤ p0.toInt ∧ p0.toInt ≤ 100 ∧ -100 ≤ p1.toInt ∧ p1.toInt ≤ 100 ∧ -100 ≤ p2.toInt ∧ p2.toInt ≤ 100 ∨ r.toInt = 0 ∧ (p0.toInt < -100 ∨ 100 < p0.toInt ∨ p1.toInt < -100 ∨ 100 < p1.toInt ∨ p2.toInt < -100 ∨ 100 < p2.toInt))) (fun u t => WW D cy κ u t) (AA κ)) 0 0 (AA κ) := by
  refine Met.twz (cc := cX10_isLoad) (maxL := 3) (by decide) rfl (Nat.le_of_ble_eq_true rfl) ?_
  intro p e s m args below meth c Q hx hb hml hown hts hK hT hret ls hl
  have hl : lv_has ls 3 [(0, .int p0), (1, .int p1), (2, .int p2)] := hl
  have hcm100 : (-100 : Int32).toInt = -100 := rfl
  have hc100 : (100 : Int32).toInt = 100 := rfl
  have hc0 : (0 : Int32).toInt = 0 := rfl
  have hc1 : (1 : Int32).toInt = 1 := rfl
  have main : ∀ (H : Heap) (locs : List Loc), TW D cy κ G H → va_S (AA κ) s.heap H locs → W p l e rmX10_isLoad s m args below meth c H locs 0 0 Q (F0 m 0 ls []) := by
    intro H locs hT hS
    refine lv_iload_n hx hb dX10_isLoad_0 rfl (lv_at hl 0 rfl) ?_
    refine lv_bipush (v := (-100 : Int32)) hx hb dX10_isLoad_1 (by decide) ?_
    refine lv_bipush (v := (100 : Int32)) hx hb dX10_isLoad_3 (by decide) ?_
    refine tw_Si (As := [.int p0, .int (-100 : Int32), .int (100 : Int32)]) (rest := []) ⟨hx, hb, hml, hown, hts⟩ (c_X10_isWithin l D cy κ G p0 (-100 : Int32) (100 : Int32)) (va_cwS 3 hts gX10_isLoad_X10_isWithin rfl rfl rfl (by decide +kernel) ⟨Nat.le_of_ble_eq_true rfl, Nat.le_of_ble_eq_true rfl⟩) hK hT hS rfl hl.1 rfl (Nat.le_of_ble_eq_true rfl) dX10_isLoad_5 ⟨Nat.zero_le _, Nat.zero_le _⟩ (fun x1 u2 H locs hpu2 hT hS => ?_)
    obtain ⟨huu2, qu2⟩ := hpu2
    rw [huu2] at hT
    refine tb_if_eq (tgt := 37) hx hb dX10_isLoad_8 (by decide) (fun c3 => ?_) (fun c3 => ?_)
    · skip
      refine lv_iconst (v := (0 : Int32)) hx hb dX10_isLoad_37 (by decide) ?_
      exact hret H locs ls 38 (0 : Int32) G dX10_isLoad_38 (by omega) ⟨rfl, by omega⟩ hT hS
    · skip
      refine lv_iload_n hx hb dX10_isLoad_11 rfl (lv_at hl 1 rfl) ?_
      refine lv_bipush (v := (-100 : Int32)) hx hb dX10_isLoad_12 (by decide) ?_
      refine lv_bipush (v := (100 : Int32)) hx hb dX10_isLoad_14 (by decide) ?_
      refine tw_Si (As := [.int p1, .int (-100 : Int32), .int (100 : Int32)]) (rest := []) ⟨hx, hb, hml, hown, hts⟩ (c_X10_isWithin l D cy κ G p1 (-100 : Int32) (100 : Int32)) (va_cwS 3 hts gX10_isLoad_X10_isWithin rfl rfl rfl (by decide +kernel) ⟨Nat.le_of_ble_eq_true rfl, Nat.le_of_ble_eq_true rfl⟩) hK hT hS rfl hl.1 rfl (Nat.le_of_ble_eq_true rfl) dX10_isLoad_16 ⟨Nat.zero_le _, Nat.zero_le _⟩ (fun x4 u5 H locs hpu5 hT hS => ?_)
      obtain ⟨huu5, qu5⟩ := hpu5
      rw [huu5] at hT
      refine tb_if_eq (tgt := 37) hx hb dX10_isLoad_19 (by decide) (fun c6 => ?_) (fun c6 => ?_)
      · skip
        refine lv_iconst (v := (0 : Int32)) hx hb dX10_isLoad_37 (by decide) ?_
        exact hret H locs ls 38 (0 : Int32) G dX10_isLoad_38 (by omega) ⟨rfl, by omega⟩ hT hS
      · skip
        refine lv_iload_n hx hb dX10_isLoad_22 rfl (lv_at hl 2 rfl) ?_
        refine lv_bipush (v := (-100 : Int32)) hx hb dX10_isLoad_23 (by decide) ?_
        refine lv_bipush (v := (100 : Int32)) hx hb dX10_isLoad_25 (by decide) ?_
        refine tw_Si (As := [.int p2, .int (-100 : Int32), .int (100 : Int32)]) (rest := []) ⟨hx, hb, hml, hown, hts⟩ (c_X10_isWithin l D cy κ G p2 (-100 : Int32) (100 : Int32)) (va_cwS 3 hts gX10_isLoad_X10_isWithin rfl rfl rfl (by decide +kernel) ⟨Nat.le_of_ble_eq_true rfl, Nat.le_of_ble_eq_true rfl⟩) hK hT hS rfl hl.1 rfl (Nat.le_of_ble_eq_true rfl) dX10_isLoad_27 ⟨Nat.zero_le _, Nat.zero_le _⟩ (fun x7 u8 H locs hpu8 hT hS => ?_)
        obtain ⟨huu8, qu8⟩ := hpu8
        rw [huu8] at hT
        refine tb_if_eq (tgt := 37) hx hb dX10_isLoad_30 (by decide) (fun c9 => ?_) (fun c9 => ?_)
        · skip
          refine lv_iconst (v := (0 : Int32)) hx hb dX10_isLoad_37 (by decide) ?_
          exact hret H locs ls 38 (0 : Int32) G dX10_isLoad_38 (by omega) ⟨rfl, by omega⟩ hT hS
        · skip
          refine lv_iconst (v := (1 : Int32)) hx hb dX10_isLoad_33 (by decide) ?_
          refine lv_goto (tgt := 38) hx hb dX10_isLoad_34 (by decide) ?_
          exact hret H locs ls 38 (1 : Int32) G dX10_isLoad_38 (by omega) ⟨rfl, by omega⟩ hT hS
  exact main s.heap [] hT va_S.rf

abbrev rmX10_isStiffness : Room := { frames := 1, cells := 0, slots := 0, locals := 22 }
set_option maxHeartbeats 4000000 in
set_option maxRecDepth 100000 in
theorem c_X10_isStiffness (l : Launch) (D : va_G) (cy : Nat → ClassId) (κ : Nat → Nat) (G : Gh) (p0 : Int32) (p1 : Int32) (p2 : Int32) (p3 : Int32) : Met l yX10_isStiffness wsX10_isStiffness rmX10_isStiffness (va_Pc [.int p0, .int p1, .int p2, .int p3] (fun U => WW D cy κ G U)) (va_Qi (fun (r : Int32) (u : Gh) => u = G ∧ (r.toInt = 1 ∧ 1 ≤ p0.toInt ∧ p0.toInt ≤ 200 ∧ 1 ≤ p1.toInt ∧ p1.toInt ≤ 200 ∧ 0 ≤ p2.toInt ∧ p2.toInt ≤ 200 ∧ 1 ≤ p3.toInt ∧ p3.toInt ≤ 200 ∧ (p2 * p2).toInt < (p0 * p1).toInt ∨ r.toInt = 0 ∧ (p0.toInt < 1 ∨ 200 < p0.toInt ∨ p1.toInt < 1 ∨ 200 < p1.toInt ∨ p2.toInt < 0 ∨ 200 < p2.toInt ∨ p3.toInt < 1 ∨ 200 < p3.toInt ∨ (p0 * p1).toInt ≤ (p2 * p2).toInt))) (fun u t => WW D cy κ u t) (AA κ)) 0 0 (AA κ) := by
  refine Met.twz (cc := cX10_isStiffness) (maxL := 4) (by decide) rfl (Nat.le_of_ble_eq_true rfl) ?_
  intro p e s m args below meth c Q hx hb hml hown hts hK hT hret ls hl
  have hl : lv_has ls 4 [(0, .int p0), (1, .int p1), (2, .int p2), (3, .int p3)] := hl
  have hc1 : (1 : Int32).toInt = 1 := rfl
  have hc200 : (200 : Int32).toInt = 200 := rfl
  have hc0 : (0 : Int32).toInt = 0 := rfl
  have main : ∀ (H : Heap) (locs : List Loc), TW D cy κ G H → va_S (AA κ) s.heap H locs → W p l e rmX10_isStiffness s m args below meth c H locs 0 0 Q (F0 m 0 ls []) := by
    intro H locs hT hS
    refine lv_iload_n hx hb dX10_isStiffness_0 rfl (lv_at hl 0 rfl) ?_
    refine lv_iconst (v := (1 : Int32)) hx hb dX10_isStiffness_1 (by decide) ?_
    refine lv_sipush (v := (200 : Int32)) hx hb dX10_isStiffness_2 (by decide) ?_
    refine tw_Si (As := [.int p0, .int (1 : Int32), .int (200 : Int32)]) (rest := []) ⟨hx, hb, hml, hown, hts⟩ (c_X10_isWithin l D cy κ G p0 (1 : Int32) (200 : Int32)) (va_cwS 3 hts gX10_isStiffness_X10_isWithin rfl rfl rfl (by decide +kernel) ⟨Nat.le_of_ble_eq_true rfl, Nat.le_of_ble_eq_true rfl⟩) hK hT hS rfl hl.1 rfl (Nat.le_of_ble_eq_true rfl) dX10_isStiffness_5 ⟨Nat.zero_le _, Nat.zero_le _⟩ (fun x1 u2 H locs hpu2 hT hS => ?_)
    obtain ⟨huu2, qu2⟩ := hpu2
    rw [huu2] at hT
    refine tb_if_eq (tgt := 57) hx hb dX10_isStiffness_8 (by decide) (fun c3 => ?_) (fun c3 => ?_)
    · skip
      refine lv_iconst (v := (0 : Int32)) hx hb dX10_isStiffness_57 (by decide) ?_
      exact hret H locs ls 58 (0 : Int32) G dX10_isStiffness_58 (by omega) ⟨rfl, by omega⟩ hT hS
    · skip
      refine lv_iload_n hx hb dX10_isStiffness_11 rfl (lv_at hl 1 rfl) ?_
      refine lv_iconst (v := (1 : Int32)) hx hb dX10_isStiffness_12 (by decide) ?_
      refine lv_sipush (v := (200 : Int32)) hx hb dX10_isStiffness_13 (by decide) ?_
      refine tw_Si (As := [.int p1, .int (1 : Int32), .int (200 : Int32)]) (rest := []) ⟨hx, hb, hml, hown, hts⟩ (c_X10_isWithin l D cy κ G p1 (1 : Int32) (200 : Int32)) (va_cwS 3 hts gX10_isStiffness_X10_isWithin rfl rfl rfl (by decide +kernel) ⟨Nat.le_of_ble_eq_true rfl, Nat.le_of_ble_eq_true rfl⟩) hK hT hS rfl hl.1 rfl (Nat.le_of_ble_eq_true rfl) dX10_isStiffness_16 ⟨Nat.zero_le _, Nat.zero_le _⟩ (fun x4 u5 H locs hpu5 hT hS => ?_)
      obtain ⟨huu5, qu5⟩ := hpu5
      rw [huu5] at hT
      refine tb_if_eq (tgt := 57) hx hb dX10_isStiffness_19 (by decide) (fun c6 => ?_) (fun c6 => ?_)
      · skip
        refine lv_iconst (v := (0 : Int32)) hx hb dX10_isStiffness_57 (by decide) ?_
        exact hret H locs ls 58 (0 : Int32) G dX10_isStiffness_58 (by omega) ⟨rfl, by omega⟩ hT hS
      · skip
        refine lv_iload_n hx hb dX10_isStiffness_22 rfl (lv_at hl 2 rfl) ?_
        refine lv_iconst (v := (0 : Int32)) hx hb dX10_isStiffness_23 (by decide) ?_
        refine lv_sipush (v := (200 : Int32)) hx hb dX10_isStiffness_24 (by decide) ?_
        refine tw_Si (As := [.int p2, .int (0 : Int32), .int (200 : Int32)]) (rest := []) ⟨hx, hb, hml, hown, hts⟩ (c_X10_isWithin l D cy κ G p2 (0 : Int32) (200 : Int32)) (va_cwS 3 hts gX10_isStiffness_X10_isWithin rfl rfl rfl (by decide +kernel) ⟨Nat.le_of_ble_eq_true rfl, Nat.le_of_ble_eq_true rfl⟩) hK hT hS rfl hl.1 rfl (Nat.le_of_ble_eq_true rfl) dX10_isStiffness_27 ⟨Nat.zero_le _, Nat.zero_le _⟩ (fun x7 u8 H locs hpu8 hT hS => ?_)
        obtain ⟨huu8, qu8⟩ := hpu8
        rw [huu8] at hT
        refine tb_if_eq (tgt := 57) hx hb dX10_isStiffness_30 (by decide) (fun c9 => ?_) (fun c9 => ?_)
        · skip
          refine lv_iconst (v := (0 : Int32)) hx hb dX10_isStiffness_57 (by decide) ?_
          exact hret H locs ls 58 (0 : Int32) G dX10_isStiffness_58 (by omega) ⟨rfl, by omega⟩ hT hS
        · skip
          refine lv_iload_n hx hb dX10_isStiffness_33 rfl (lv_at hl 3 rfl) ?_
          refine lv_iconst (v := (1 : Int32)) hx hb dX10_isStiffness_34 (by decide) ?_
          refine lv_sipush (v := (200 : Int32)) hx hb dX10_isStiffness_35 (by decide) ?_
          refine tw_Si (As := [.int p3, .int (1 : Int32), .int (200 : Int32)]) (rest := []) ⟨hx, hb, hml, hown, hts⟩ (c_X10_isWithin l D cy κ G p3 (1 : Int32) (200 : Int32)) (va_cwS 3 hts gX10_isStiffness_X10_isWithin rfl rfl rfl (by decide +kernel) ⟨Nat.le_of_ble_eq_true rfl, Nat.le_of_ble_eq_true rfl⟩) hK hT hS rfl hl.1 rfl (Nat.le_of_ble_eq_true rfl) dX10_isStiffness_38 ⟨Nat.zero_le _, Nat.zero_le _⟩ (fun x10 u11 H locs hpu11 hT hS => ?_)
          obtain ⟨huu11, qu11⟩ := hpu11
          rw [huu11] at hT
          refine tb_if_eq (tgt := 57) hx hb dX10_isStiffness_41 (by decide) (fun c12 => ?_) (fun c12 => ?_)
          · skip
            refine lv_iconst (v := (0 : Int32)) hx hb dX10_isStiffness_57 (by decide) ?_
            exact hret H locs ls 58 (0 : Int32) G dX10_isStiffness_58 (by omega) ⟨rfl, by omega⟩ hT hS
          · skip
            refine lv_iload_n hx hb dX10_isStiffness_44 rfl (lv_at hl 2 rfl) ?_
            refine lv_iload_n hx hb dX10_isStiffness_45 rfl (lv_at hl 2 rfl) ?_
            refine lv_imul hx hb dX10_isStiffness_46 ?_
            refine lv_topi (fun x13 ex13 => ?_)
            have tx13 : x13.toInt = (p2 * p2).toInt := by rw [ex13]
            refine lv_iload_n hx hb dX10_isStiffness_47 rfl (lv_at hl 0 rfl) ?_
            refine lv_iload_n hx hb dX10_isStiffness_48 rfl (lv_at hl 1 rfl) ?_
            refine lv_imul hx hb dX10_isStiffness_49 ?_
            refine lv_topi (fun x14 ex14 => ?_)
            have tx14 : x14.toInt = (p0 * p1).toInt := by rw [ex14]
            refine tb_icmp_ge (tgt := 57) hx hb dX10_isStiffness_50 (by decide) (fun c15 => ?_) (fun c15 => ?_)
            · skip
              refine lv_iconst (v := (0 : Int32)) hx hb dX10_isStiffness_57 (by decide) ?_
              exact hret H locs ls 58 (0 : Int32) G dX10_isStiffness_58 (by omega) ⟨rfl, by omega⟩ hT hS
            · skip
              refine lv_iconst (v := (1 : Int32)) hx hb dX10_isStiffness_53 (by decide) ?_
              refine lv_goto (tgt := 58) hx hb dX10_isStiffness_54 (by decide) ?_
              exact hret H locs ls 58 (1 : Int32) G dX10_isStiffness_58 (by omega) ⟨rfl, by omega⟩ hT hS
  exact main s.heap [] hT va_S.rf

abbrev rmX10_isStuff : Room := { frames := 1, cells := 0, slots := 0, locals := 22 }
set_option maxHeartbeats 4000000 in
set_option maxRecDepth 100000 in
theorem c_X10_isStuff (l : Launch) (D : va_G) (cy : Nat → ClassId) (κ : Nat → Nat) (G : Gh) (p0 : Nat) (k0 : κ p0 = 11) (p1 : Int32) : Met l yX10_isStuff wsX10_isStuff rmX10_isStuff (va_Pc [.ref p0, .int p1] (fun U => WW D cy κ G U)) (va_Qi (fun (r : Int32) (u : Gh) => u = G ∧ (r.toInt = 1 ∧ 0 ≤ p1.toInt ∧ p1.toInt < (G.1 0).toInt ∧ p1.toInt ≤ 2 ∨ r.toInt = 0 ∧ (p1.toInt < 0 ∨ (G.1 0).toInt ≤ p1.toInt))) (fun u t => WW D cy κ u t) (AA κ)) 0 0 (AA κ) := by
  refine Met.twz (cc := cX10_isStuff) (maxL := 2) (by decide) rfl (Nat.le_of_ble_eq_true rfl) ?_
  intro p e s m args below meth c Q hx hb hml hown hts hK hT hret ls hl
  have hl : lv_has ls 2 [(0, .ref p0), (1, .int p1)] := hl
  have hc0 : (0 : Int32).toInt = 0 := rfl
  have hfl56 := hts (.fieldLink RX10 56 "PlyPlates" "stuffCount" "I") (by decide +kernel)
  have hin10 : ∀ w ∈ u_ws RX10 TX10 11, w ∈ wsX10_isStuff := by decide +kernel
  have hc1 : (1 : Int32).toInt = 1 := rfl
  have main : ∀ (H : Heap) (locs : List Loc), TW D cy κ G H → va_S (AA κ) s.heap H locs → W p l e rmX10_isStuff s m args below meth c H locs 0 0 Q (F0 m 0 ls []) := by
    intro H locs hT hS
    refine lv_iload_n hx hb dX10_isStuff_0 rfl (lv_at hl 1 rfl) ?_
    refine lv_iconst (v := (0 : Int32)) hx hb dX10_isStuff_1 (by decide) ?_
    refine lv_aload_n hx hb dX10_isStuff_2 rfl (lv_at hl 0 rfl) ?_
    refine gf_10_9 hx hb hts hin10 hown hK hT k0 hfl56 dX10_isStuff_3 (fun x1 kx1 fvx1 => ?_)
    have gx1 := congrArg Int32.toInt kx1.1
    refine lv_iconst (v := (1 : Int32)) hx hb dX10_isStuff_6 (by decide) ?_
    refine lv_isub hx hb dX10_isStuff_7 ?_
    refine lv_topi (fun x2 ex2 => ?_)
    have tx2 : x2.toInt = x1.toInt - (1 : Int32).toInt := by rw [ex2]; exact ti_sub (by have := i32b x1; have := i32b (1 : Int32); omega)
    refine tw_Si (As := [.int p1, .int (0 : Int32), .int x2]) (rest := []) ⟨hx, hb, hml, hown, hts⟩ (c_X10_isWithin l D cy κ G p1 (0 : Int32) x2) (va_cwS 3 hts gX10_isStuff_X10_isWithin rfl rfl rfl (by decide +kernel) ⟨Nat.le_of_ble_eq_true rfl, Nat.le_of_ble_eq_true rfl⟩) hK hT hS rfl hl.1 rfl (Nat.le_of_ble_eq_true rfl) dX10_isStuff_8 ⟨Nat.zero_le _, Nat.zero_le _⟩ (fun x3 u4 H locs hpu4 hT hS => ?_)
    obtain ⟨huu4, qu4⟩ := hpu4
    rw [huu4] at hT
    exact hret H locs ls 11 x3 G dX10_isStuff_11 (by omega) ⟨rfl, by omega⟩ hT hS
  exact main s.heap [] hT va_S.rf

abbrev rmX10_isPlate : Room := { frames := 1, cells := 0, slots := 0, locals := 22 }
set_option maxHeartbeats 4000000 in
set_option maxRecDepth 100000 in
theorem c_X10_isPlate (l : Launch) (D : va_G) (cy : Nat → ClassId) (κ : Nat → Nat) (G : Gh) (p0 : Nat) (k0 : κ p0 = 11) (p1 : Int32) : Met l yX10_isPlate wsX10_isPlate rmX10_isPlate (va_Pc [.ref p0, .int p1] (fun U => WW D cy κ G U)) (va_Qi (fun (r : Int32) (u : Gh) => u = G ∧ (r.toInt = 1 ∧ 0 ≤ p1.toInt ∧ p1.toInt ≤ 3 ∨ r.toInt = 0)) (fun u t => WW D cy κ u t) (AA κ)) 0 0 (AA κ) := by
  refine Met.twz (cc := cX10_isPlate) (maxL := 2) (by decide) rfl (Nat.le_of_ble_eq_true rfl) ?_
  intro p e s m args below meth c Q hx hb hml hown hts hK hT hret ls hl
  have hl : lv_has ls 2 [(0, .ref p0), (1, .int p1)] := hl
  have hc0 : (0 : Int32).toInt = 0 := rfl
  have hfl60 := hts (.fieldLink RX10 60 "PlyPlates" "plateCount" "I") (by decide +kernel)
  have hin10 : ∀ w ∈ u_ws RX10 TX10 11, w ∈ wsX10_isPlate := by decide +kernel
  have hc1 : (1 : Int32).toInt = 1 := rfl
  have main : ∀ (H : Heap) (locs : List Loc), TW D cy κ G H → va_S (AA κ) s.heap H locs → W p l e rmX10_isPlate s m args below meth c H locs 0 0 Q (F0 m 0 ls []) := by
    intro H locs hT hS
    refine lv_iload_n hx hb dX10_isPlate_0 rfl (lv_at hl 1 rfl) ?_
    refine lv_iconst (v := (0 : Int32)) hx hb dX10_isPlate_1 (by decide) ?_
    refine lv_aload_n hx hb dX10_isPlate_2 rfl (lv_at hl 0 rfl) ?_
    refine gf_10_10 hx hb hts hin10 hown hK hT k0 hfl60 dX10_isPlate_3 (fun x1 kx1 fvx1 => ?_)
    have gx1 := congrArg Int32.toInt kx1.1
    refine lv_iconst (v := (1 : Int32)) hx hb dX10_isPlate_6 (by decide) ?_
    refine lv_isub hx hb dX10_isPlate_7 ?_
    refine lv_topi (fun x2 ex2 => ?_)
    have tx2 : x2.toInt = x1.toInt - (1 : Int32).toInt := by rw [ex2]; exact ti_sub (by have := i32b x1; have := i32b (1 : Int32); omega)
    refine tw_Si (As := [.int p1, .int (0 : Int32), .int x2]) (rest := []) ⟨hx, hb, hml, hown, hts⟩ (c_X10_isWithin l D cy κ G p1 (0 : Int32) x2) (va_cwS 3 hts gX10_isPlate_X10_isWithin rfl rfl rfl (by decide +kernel) ⟨Nat.le_of_ble_eq_true rfl, Nat.le_of_ble_eq_true rfl⟩) hK hT hS rfl hl.1 rfl (Nat.le_of_ble_eq_true rfl) dX10_isPlate_8 ⟨Nat.zero_le _, Nat.zero_le _⟩ (fun x3 u4 H locs hpu4 hT hS => ?_)
    obtain ⟨huu4, qu4⟩ := hpu4
    rw [huu4] at hT
    exact hret H locs ls 11 x3 G dX10_isPlate_11 (by omega) ⟨rfl, by omega⟩ hT hS
  exact main s.heap [] hT va_S.rf

abbrev rmX10_isLayer : Room := { frames := 2, cells := 0, slots := 0, locals := 43 }
set_option maxHeartbeats 4000000 in
set_option maxRecDepth 100000 in
theorem c_X10_isLayer (l : Launch) (D : va_G) (cy : Nat → ClassId) (κ : Nat → Nat) (G : Gh) (p0 : Nat) (k0 : κ p0 = 11) (p1 : Int32) (p2 : Int32) : Met l yX10_isLayer wsX10_isLayer rmX10_isLayer (va_Pc [.ref p0, .int p1, .int p2] (fun U => WW D cy κ G U)) (va_Qi (fun (r : Int32) (u : Gh) => u = G ∧ (r.toInt = 1 ∧ 0 ≤ p1.toInt ∧ p1.toInt ≤ 3 ∧ 0 ≤ p2.toInt ∧ p2.toInt ≤ 11 ∨ r.toInt = 0)) (fun u t => WW D cy κ u t) (AA κ)) 0 0 (AA κ) := by
  refine Met.twz (cc := cX10_isLayer) (maxL := 3) (by decide) rfl (Nat.le_of_ble_eq_true rfl) ?_
  intro p e s m args below meth c Q hx hb hml hown hts hK hT hret ls hl
  have hl : lv_has ls 3 [(0, .ref p0), (1, .int p1), (2, .int p2)] := hl
  have hc0 : (0 : Int32).toInt = 0 := rfl
  have hfl19 := hts (.fieldLink RX10 19 "PlyPlates" "plates" "[LPlyPlates$Plate;") (by decide +kernel)
  have hin10 : ∀ w ∈ u_ws RX10 TX10 11, w ∈ wsX10_isLayer := by decide +kernel
  have hfl119 := hts (.fieldLink RX10 119 "PlyPlates$Plate" "size" "I") (by decide +kernel)
  have hin7 : ∀ w ∈ u_ws RX7 TX7 2, w ∈ wsX10_isLayer := by decide +kernel
  have hc1 : (1 : Int32).toInt = 1 := rfl
  have main : ∀ (H : Heap) (locs : List Loc), TW D cy κ G H → va_S (AA κ) s.heap H locs → W p l e rmX10_isLayer s m args below meth c H locs 0 0 Q (F0 m 0 ls []) := by
    intro H locs hT hS
    refine lv_aload_n hx hb dX10_isLayer_0 rfl (lv_at hl 0 rfl) ?_
    refine lv_iload_n hx hb dX10_isLayer_1 rfl (lv_at hl 1 rfl) ?_
    refine tw_Vi (q := (RX10, TX10, 11)) (As := [.int p1]) (rest := []) ⟨hx, hb, hml, hown, hts⟩ (c_X10_isPlate l D cy κ G p0 k0 p1) (cwV 1 hts gX10_isLayer_X10_isPlate rfl rfl rfl (by decide +kernel) ⟨Nat.le_of_ble_eq_true rfl, Nat.le_of_ble_eq_true rfl⟩) hK hT hS k0 (by decide) rfl rfl hl.1 rfl (Nat.le_of_ble_eq_true rfl) dX10_isLayer_2 ⟨Nat.zero_le _, Nat.zero_le _⟩ (fun x1 u2 H locs hpu2 hT hS => ?_)
    obtain ⟨huu2, qu2⟩ := hpu2
    rw [huu2] at hT
    refine tb_if_eq (tgt := 31) hx hb dX10_isLayer_5 (by decide) (fun c3 => ?_) (fun c3 => ?_)
    · skip
      refine lv_iconst (v := (0 : Int32)) hx hb dX10_isLayer_31 (by decide) ?_
      exact hret H locs ls 32 (0 : Int32) G dX10_isLayer_32 (by omega) ⟨rfl, by omega⟩ hT hS
    · skip
      refine lv_iload_n hx hb dX10_isLayer_8 rfl (lv_at hl 2 rfl) ?_
      refine lv_iconst (v := (0 : Int32)) hx hb dX10_isLayer_9 (by decide) ?_
      refine lv_aload_n hx hb dX10_isLayer_10 rfl (lv_at hl 0 rfl) ?_
      refine gf_10_1 hx hb hts hin10 hown hK hT k0 hfl19 dX10_isLayer_11 (fun a4 ka4 fva4 => ?_)
      refine lv_iload_n hx hb dX10_isLayer_14 rfl (lv_at hl 1 rfl) ?_
      refine tw_ra (K := 30) (t := 3) (ty := .object RX7) (n := 4) (P := fun b => κ b = 8) hx hb hK hT ka4 (by decide) rfl rfl rfl rfl (by omega) rfl dX10_isLayer_15 (fun a5 ka5 fva5 => ?_)
      refine gf_7_1 hx hb hts hin7 hown hK hT ka5 hfl119 dX10_isLayer_16 (fun x6 kx6 fvx6 => ?_)
      have gx6 := congrArg Int32.toInt kx6.1
      refine lv_iconst (v := (1 : Int32)) hx hb dX10_isLayer_19 (by decide) ?_
      refine lv_isub hx hb dX10_isLayer_20 ?_
      refine lv_topi (fun x7 ex7 => ?_)
      have tx7 : x7.toInt = x6.toInt - (1 : Int32).toInt := by rw [ex7]; exact ti_sub (by have := i32b x6; have := i32b (1 : Int32); omega)
      refine tw_Si (As := [.int p2, .int (0 : Int32), .int x7]) (rest := []) ⟨hx, hb, hml, hown, hts⟩ (c_X10_isWithin l D cy κ G p2 (0 : Int32) x7) (va_cwS 3 hts gX10_isLayer_X10_isWithin rfl rfl rfl (by decide +kernel) ⟨Nat.le_of_ble_eq_true rfl, Nat.le_of_ble_eq_true rfl⟩) hK hT hS rfl hl.1 rfl (Nat.le_of_ble_eq_true rfl) dX10_isLayer_21 ⟨Nat.zero_le _, Nat.zero_le _⟩ (fun x8 u9 H locs hpu9 hT hS => ?_)
      obtain ⟨huu9, qu9⟩ := hpu9
      rw [huu9] at hT
      refine tb_if_eq (tgt := 31) hx hb dX10_isLayer_24 (by decide) (fun c10 => ?_) (fun c10 => ?_)
      · skip
        refine lv_iconst (v := (0 : Int32)) hx hb dX10_isLayer_31 (by decide) ?_
        exact hret H locs ls 32 (0 : Int32) G dX10_isLayer_32 (by omega) ⟨rfl, by omega⟩ hT hS
      · skip
        refine lv_iconst (v := (1 : Int32)) hx hb dX10_isLayer_27 (by decide) ?_
        refine lv_goto (tgt := 32) hx hb dX10_isLayer_28 (by decide) ?_
        exact hret H locs ls 32 (1 : Int32) G dX10_isLayer_32 (by omega) ⟨rfl, by omega⟩ hT hS
  exact main s.heap [] hT va_S.rf

abbrev rmX10_bitIf : Room := { frames := 0, cells := 0, slots := 0, locals := 0 }
set_option maxHeartbeats 4000000 in
set_option maxRecDepth 100000 in
theorem c_X10_bitIf (l : Launch) (D : va_G) (cy : Nat → ClassId) (κ : Nat → Nat) (G : Gh) (p0 : Int32) (p1 : Int32) : Met l yX10_bitIf wsX10_bitIf rmX10_bitIf (va_Pc [.int p0, .int p1] (fun U => WW D cy κ G U)) (va_Qi (fun (r : Int32) (u : Gh) => u = G ∧ (True)) (fun u t => WW D cy κ u t) (AA κ)) 0 0 (AA κ) := by
  refine Met.twi (cc := cX10_bitIf) (maxL := 2) (by decide) rfl (Nat.le_of_ble_eq_true rfl) ?_
  intro p e s m args below meth c Q hx hb hml hown hts hK hT hret ls hl
  have hl : lv_has ls 2 [(0, .int p0), (1, .int p1)] := hl
  have hc0 : (0 : Int32).toInt = 0 := rfl
  have hc1 : (1 : Int32).toInt = 1 := rfl
  have main : ∀ (H : Heap) (locs : List Loc), TW D cy κ G H → va_S (AA κ) s.heap H locs → W p l e rmX10_bitIf s m args below meth c H locs 0 0 Q (F0 m 0 ls []) := by
    intro H locs hT hS
    refine lv_iload_n hx hb dX10_bitIf_0 rfl (lv_at hl 0 rfl) ?_
    refine tb_if_eq (tgt := 10) hx hb dX10_bitIf_1 (by decide) (fun c1 => ?_) (fun c1 => ?_)
    · skip
      refine lv_iconst (v := (0 : Int32)) hx hb dX10_bitIf_10 (by decide) ?_
      exact hret H locs ls 11 (0 : Int32) G dX10_bitIf_11 ⟨rfl, trivial⟩ hT hS
    · skip
      refine lv_iconst (v := (1 : Int32)) hx hb dX10_bitIf_4 (by decide) ?_
      refine lv_iload_n hx hb dX10_bitIf_5 rfl (lv_at hl 1 rfl) ?_
      refine lv_ishl hx hb dX10_bitIf_6 ?_
      refine lv_topi (fun x2 _ => ?_)
      refine lv_goto (tgt := 11) hx hb dX10_bitIf_7 (by decide) ?_
      exact hret H locs ls 11 x2 G dX10_bitIf_11 ⟨rfl, trivial⟩ hT hS
  exact main s.heap [] hT va_S.rf

abbrev rmX10_stretchPart : Room := { frames := 2, cells := 0, slots := 0, locals := 60 }
set_option maxHeartbeats 4000000 in
set_option maxRecDepth 100000 in
theorem c_X10_stretchPart (l : Launch) (D : va_G) (cy : Nat → ClassId) (κ : Nat → Nat) (G : Gh) (p0 : Nat) (k0 : κ p0 = 11) (p1 : Int32) (p2 : Int32) : Met l yX10_stretchPart wsX10_stretchPart rmX10_stretchPart (va_Pc [.ref p0, .int p1, .int p2] (fun U => WW D cy κ G U)) (va_Ql (fun (r : Int64) (u : Gh) => u = G ∧ (True)) (fun u t => WW D cy κ u t) (AA κ)) 0 0 (AA κ) := by
  refine Met.twl (cc := cX10_stretchPart) (maxL := 3) (by decide) rfl (Nat.le_of_ble_eq_true rfl) ?_
  intro p e s m args below meth c Q hx hb hml hown hts hK hT hret ls hl
  have hl : lv_has ls 3 [(0, .ref p0), (1, .int p1), (2, .int p2)] := hl
  have hfl69 := hts (.fieldLink RX10 69 "PlyPlates" "flat" "LPlyPlates$Flat;") (by decide +kernel)
  have hin10 : ∀ w ∈ u_ws RX10 TX10 11, w ∈ wsX10_stretchPart := by decide +kernel
  have hfl172 := hts (.fieldLink RX10 172 "PlyPlates$Flat" "below" "J") (by decide +kernel)
  have hin2 : ∀ w ∈ u_ws RX2 TX2 13, w ∈ wsX10_stretchPart := by decide +kernel
  have hlc0 : (0 : Int64).toInt = 0 := rfl
  have hkl148 := hts (.constantLong RX10 148 (-9223372036854775808)) (by decide +kernel)
  have hlk148 : (-9223372036854775808 : Int64).toInt = -9223372036854775808 := rfl
  have hc0 : (0 : Int32).toInt = 0 := rfl
  have hc2 : (2 : Int32).toInt = 2 := rfl
  have hfl52 := hts (.fieldLink RX10 52 "PlyPlates" "fraction" "LPlyPlates$Fraction;") (by decide +kernel)
  have hfl268 := hts (.fieldLink RX10 268 "PlyPlates$Flat" "above" "[J") (by decide +kernel)
  have main : ∀ (H : Heap) (locs : List Loc), TW D cy κ G H → va_S (AA κ) s.heap H locs → W p l e rmX10_stretchPart s m args below meth c H locs 0 0 Q (F0 m 0 ls []) := by
    intro H locs hT hS
    refine lv_aload_n hx hb dX10_stretchPart_0 rfl (lv_at hl 0 rfl) ?_
    refine gf_10_7 hx hb hts hin10 hown hK hT k0 hfl69 dX10_stretchPart_1 (fun a1 ka1 fva1 => ?_)
    refine gf_2_6 hx hb hts hin2 hown hK hT ka1 hfl172 dX10_stretchPart_4 (fun y2 ky2 fvy2 => ?_)
    refine lv_lconst (v := 0) hx hb dX10_stretchPart_7 (by decide) ?_
    refine tb_lcmp2 hx hb dX10_stretchPart_8 (fun x3 tx3 ux3 => ?_)
    refine tb_if_eq (tgt := 21) hx hb dX10_stretchPart_9 (by decide) (fun c4 => ?_) (fun c4 => ?_)
    · skip
      refine lv_ldc2 hx hb hown hkl148 dX10_stretchPart_21 ?_
      exact hret H locs ls 24 (-9223372036854775808 : Int64) G dX10_stretchPart_24 ⟨rfl, trivial⟩ hT hS
    · skip
      refine lv_iload_n hx hb dX10_stretchPart_12 rfl (lv_at hl 1 rfl) ?_
      refine lv_iconst (v := (0 : Int32)) hx hb dX10_stretchPart_13 (by decide) ?_
      refine lv_iconst (v := (2 : Int32)) hx hb dX10_stretchPart_14 (by decide) ?_
      refine tw_Si (As := [.int p1, .int (0 : Int32), .int (2 : Int32)]) (rest := []) ⟨hx, hb, hml, hown, hts⟩ (c_X10_isWithin l D cy κ G p1 (0 : Int32) (2 : Int32)) (va_cwS 3 hts gX10_stretchPart_X10_isWithin rfl rfl rfl (by decide +kernel) ⟨Nat.le_of_ble_eq_true rfl, Nat.le_of_ble_eq_true rfl⟩) hK hT hS rfl hl.1 rfl (Nat.le_of_ble_eq_true rfl) dX10_stretchPart_15 ⟨Nat.zero_le _, Nat.zero_le _⟩ (fun x5 u6 H locs hpu6 hT hS => ?_)
      obtain ⟨huu6, qu6⟩ := hpu6
      rw [huu6] at hT
      refine tb_if_ne (tgt := 25) hx hb dX10_stretchPart_18 (by decide) (fun c7 => ?_) (fun c7 => ?_)
      · skip
        refine lv_aload_n hx hb dX10_stretchPart_25 rfl (lv_at hl 0 rfl) ?_
        refine gf_10_6 hx hb hts hin10 hown hK hT k0 hfl52 dX10_stretchPart_26 (fun a8 ka8 fva8 => ?_)
        refine lv_aload_n hx hb dX10_stretchPart_29 rfl (lv_at hl 0 rfl) ?_
        refine gf_10_7 hx hb hts hin10 hown hK hT k0 hfl69 dX10_stretchPart_30 (fun a9 ka9 fva9 => ?_)
        refine gf_2_5 hx hb hts hin2 hown hK hT ka9 hfl268 dX10_stretchPart_33 (fun a10 ka10 fva10 => ?_)
        refine lv_iload_n hx hb dX10_stretchPart_36 rfl (lv_at hl 1 rfl) ?_
        refine tw_la (K := 2003) (n := 3) (P := fun _ => True) hx hb hK hT ka10 (by decide) rfl rfl (by omega) rfl dX10_stretchPart_37 (fun y11 _ fvy11 => ?_)
        refine lv_aload_n hx hb dX10_stretchPart_38 rfl (lv_at hl 0 rfl) ?_
        refine gf_10_7 hx hb hts hin10 hown hK hT k0 hfl69 dX10_stretchPart_39 (fun a12 ka12 fva12 => ?_)
        obtain rfl : a9 = a12 := eRef (FV.eq fva9 fva12)
        refine gf_2_6 hx hb hts hin2 hown hK hT ka9 hfl172 dX10_stretchPart_42 (fun y13 ky13 fvy13 => ?_)
        refine tw_Vv (q := (RX3, TX3, 2)) (As := [.long y11, .long y13]) (rest := []) ⟨hx, hb, hml, hown, hts⟩ (c_X3_become l D cy κ G a8 ka8 y11 y13) (cwV 2 hts gX10_stretchPart_X3_become rfl rfl rfl (by decide +kernel) ⟨Nat.le_of_ble_eq_true rfl, Nat.le_of_ble_eq_true rfl⟩) hK hT hS ka8 (by decide) rfl rfl hl.1 rfl (Nat.le_of_ble_eq_true rfl) dX10_stretchPart_45 ⟨Nat.zero_le _, Nat.zero_le _⟩ (fun u15 H locs hpu15 hT hS => ?_)
        obtain ⟨huu15, qu15⟩ := hpu15
        rw [huu15] at hT
        refine lv_aload_n hx hb dX10_stretchPart_48 rfl (lv_at hl 0 rfl) ?_
        refine gf_10_6 hx hb hts hin10 hown hK hT k0 hfl52 dX10_stretchPart_49 (fun a16 ka16 fva16 => ?_)
        refine lv_iload_n hx hb dX10_stretchPart_52 rfl (lv_at hl 2 rfl) ?_
        refine tw_Vl (q := (RX3, TX3, 2)) (As := [.int p2]) (rest := []) ⟨hx, hb, hml, hown, hts⟩ (c_X3_partOf l D cy κ G a16 ka16 p2) (cwV 1 hts gX10_stretchPart_X3_partOf rfl rfl rfl (by decide +kernel) ⟨Nat.le_of_ble_eq_true rfl, Nat.le_of_ble_eq_true rfl⟩) hK hT hS ka16 (by decide) rfl rfl hl.1 rfl (Nat.le_of_ble_eq_true rfl) dX10_stretchPart_53 ⟨Nat.zero_le _, Nat.zero_le _⟩ (fun y17 u18 H locs hpu18 hT hS => ?_)
        obtain ⟨huu18, qu18⟩ := hpu18
        rw [huu18] at hT
        exact hret H locs ls 56 y17 G dX10_stretchPart_56 ⟨rfl, trivial⟩ hT hS
      · skip
        refine lv_ldc2 hx hb hown hkl148 dX10_stretchPart_21 ?_
        exact hret H locs ls 24 (-9223372036854775808 : Int64) G dX10_stretchPart_24 ⟨rfl, trivial⟩ hT hS
  exact main s.heap [] hT va_S.rf

abbrev rmX10_strength : Room := { frames := 2, cells := 0, slots := 0, locals := 43 }
set_option maxHeartbeats 4000000 in
set_option maxRecDepth 100000 in
theorem c_X10_strength (l : Launch) (D : va_G) (cy : Nat → ClassId) (κ : Nat → Nat) (G : Gh) (p0 : Nat) (k0 : κ p0 = 11) (p1 : Int32) (p2 : Int32) (p3 : Int32) : Met l yX10_strength wsX10_strength rmX10_strength (va_Pc [.ref p0, .int p1, .int p2, .int p3] (fun U => WW D cy κ G U)) (va_Qi (fun (r : Int32) (u : Gh) => u = G ∧ (True)) (fun u t => WW D cy κ u t) (AA κ)) 0 0 (AA κ) := by
  refine Met.twi (cc := cX10_strength) (maxL := 6) (by decide) rfl (Nat.le_of_ble_eq_true rfl) ?_
  intro p e s m args below meth c Q hx hb hml hown hts hK hT hret ls hl
  have hl : lv_has ls 6 [(0, .ref p0), (1, .int p1), (2, .int p2), (3, .int p3)] := hl
  have hc0 : (0 : Int32).toInt = 0 := rfl
  have hc4 : (4 : Int32).toInt = 4 := rfl
  have hcm2 : (-2 : Int32).toInt = -2 := rfl
  have hc1 : (1 : Int32).toInt = 1 := rfl
  have hc1000 : (1000 : Int32).toInt = 1000 := rfl
  have hfl13 := hts (.fieldLink RX10 13 "PlyPlates" "stuffs" "[LPlyPlates$Stuff;") (by decide +kernel)
  have hin10 : ∀ w ∈ u_ws RX10 TX10 11, w ∈ wsX10_strength := by decide +kernel
  have hfl98 := hts (.fieldLink RX10 98 "PlyPlates$Stuff" "strengths" "[I") (by decide +kernel)
  have hin9 : ∀ w ∈ u_ws RX9 TX9 7, w ∈ wsX10_strength := by decide +kernel
  have hcm1 : (-1 : Int32).toInt = -1 := rfl
  have main : ∀ (H : Heap) (locs : List Loc), TW D cy κ G H → va_S (AA κ) s.heap H locs → W p l e rmX10_strength s m args below meth c H locs 0 0 Q (F0 m 0 ls []) := by
    intro H locs hT hS
    refine lv_aload_n hx hb dX10_strength_0 rfl (lv_at hl 0 rfl) ?_
    refine lv_iload_n hx hb dX10_strength_1 rfl (lv_at hl 1 rfl) ?_
    refine tw_Vi (q := (RX10, TX10, 11)) (As := [.int p1]) (rest := []) ⟨hx, hb, hml, hown, hts⟩ (c_X10_isStuff l D cy κ G p0 k0 p1) (cwV 1 hts gX10_strength_X10_isStuff rfl rfl rfl (by decide +kernel) ⟨Nat.le_of_ble_eq_true rfl, Nat.le_of_ble_eq_true rfl⟩) hK hT hS k0 (by decide) rfl rfl hl.1 rfl (Nat.le_of_ble_eq_true rfl) dX10_strength_2 ⟨Nat.zero_le _, Nat.zero_le _⟩ (fun x1 u2 H locs hpu2 hT hS => ?_)
    obtain ⟨huu2, qu2⟩ := hpu2
    rw [huu2] at hT
    refine tb_if_ne (tgt := 10) hx hb dX10_strength_5 (by decide) (fun c3 => ?_) (fun c3 => ?_)
    · skip
      refine lv_iload_n hx hb dX10_strength_10 rfl (lv_at hl 2 rfl) ?_
      refine lv_iconst (v := (0 : Int32)) hx hb dX10_strength_11 (by decide) ?_
      refine lv_iconst (v := (4 : Int32)) hx hb dX10_strength_12 (by decide) ?_
      refine tw_Si (As := [.int p2, .int (0 : Int32), .int (4 : Int32)]) (rest := []) ⟨hx, hb, hml, hown, hts⟩ (c_X10_isWithin l D cy κ G p2 (0 : Int32) (4 : Int32)) (va_cwS 3 hts gX10_strength_X10_isWithin rfl rfl rfl (by decide +kernel) ⟨Nat.le_of_ble_eq_true rfl, Nat.le_of_ble_eq_true rfl⟩) hK hT hS rfl hl.1 rfl (Nat.le_of_ble_eq_true rfl) dX10_strength_13 ⟨Nat.zero_le _, Nat.zero_le _⟩ (fun x4 u5 H locs hpu5 hT hS => ?_)
      obtain ⟨huu5, qu5⟩ := hpu5
      rw [huu5] at hT
      refine tb_if_eq (tgt := 30) hx hb dX10_strength_16 (by decide) (fun c6 => ?_) (fun c6 => ?_)
      · skip
        refine lv_bipush (v := (-2 : Int32)) hx hb dX10_strength_30 (by decide) ?_
        exact hret H locs ls 32 (-2 : Int32) G dX10_strength_32 ⟨rfl, trivial⟩ hT hS
      · skip
        refine lv_iload_n hx hb dX10_strength_19 rfl (lv_at hl 3 rfl) ?_
        refine lv_iconst (v := (1 : Int32)) hx hb dX10_strength_20 (by decide) ?_
        refine lv_sipush (v := (1000 : Int32)) hx hb dX10_strength_21 (by decide) ?_
        refine tw_Si (As := [.int p3, .int (1 : Int32), .int (1000 : Int32)]) (rest := []) ⟨hx, hb, hml, hown, hts⟩ (c_X10_isWithin l D cy κ G p3 (1 : Int32) (1000 : Int32)) (va_cwS 3 hts gX10_strength_X10_isWithin rfl rfl rfl (by decide +kernel) ⟨Nat.le_of_ble_eq_true rfl, Nat.le_of_ble_eq_true rfl⟩) hK hT hS rfl hl.1 rfl (Nat.le_of_ble_eq_true rfl) dX10_strength_24 ⟨Nat.zero_le _, Nat.zero_le _⟩ (fun x7 u8 H locs hpu8 hT hS => ?_)
        obtain ⟨huu8, qu8⟩ := hpu8
        rw [huu8] at hT
        refine tb_if_ne (tgt := 33) hx hb dX10_strength_27 (by decide) (fun c9 => ?_) (fun c9 => ?_)
        · skip
          refine lv_aload_n hx hb dX10_strength_33 rfl (lv_at hl 0 rfl) ?_
          refine gf_10_0 hx hb hts hin10 hown hK hT k0 hfl13 dX10_strength_34 (fun a10 ka10 fva10 => ?_)
          refine lv_iload_n hx hb dX10_strength_37 rfl (lv_at hl 1 rfl) ?_
          refine tw_ra (K := 24) (t := 4) (ty := .object RX9) (n := 3) (P := fun b => κ b = 10) hx hb hK hT ka10 (by decide) rfl rfl rfl rfl (by omega) rfl dX10_strength_38 (fun a11 ka11 fva11 => ?_)
          refine gf_9_6 hx hb hts hin9 hown hK hT ka11 hfl98 dX10_strength_39 (fun a12 ka12 fva12 => ?_)
          refine lv_astore (lv' := [(4, .ref a12), (0, .ref p0), (1, .int p1), (2, .int p2), (3, .int p3)]) hx hb dX10_strength_42 hl (by decide) rfl (fun ls hl => ?_)
          refine lv_aload hx hb dX10_strength_44 (lv_at hl 0 rfl) ?_
          refine lv_iload_n hx hb dX10_strength_46 rfl (lv_at hl 3 rfl) ?_
          refine tw_ia (K := 1005) (n := 5) (P := fun _ => True) hx hb hK hT ka12 (by decide) rfl rfl (by omega) rfl dX10_strength_47 (fun x13 _ fvx13 => ?_)
          refine lv_istore (lv' := [(5, .int x13), (4, .ref a12), (0, .ref p0), (1, .int p1), (2, .int p2), (3, .int p3)]) hx hb dX10_strength_48 hl (by decide) rfl (fun ls hl => ?_)
          refine lv_aload hx hb dX10_strength_50 (lv_at hl 1 rfl) ?_
          refine lv_iload_n hx hb dX10_strength_52 rfl (lv_at hl 4 rfl) ?_
          refine lv_iload_n hx hb dX10_strength_53 rfl (lv_at hl 5 rfl) ?_
          refine tw_ias (K := 1005) (n := 5) (P := fun _ => True) hx hb hK hT hS ka12 (by decide) rfl rfl (by omega) rfl trivial dX10_strength_54 (fun H locs hT hS hq => ?_)
          refine lv_iload hx hb dX10_strength_55 (lv_at hl 0 rfl) ?_
          exact hret H locs ls 57 x13 G dX10_strength_57 ⟨rfl, trivial⟩ hT hS
        · skip
          refine lv_bipush (v := (-2 : Int32)) hx hb dX10_strength_30 (by decide) ?_
          exact hret H locs ls 32 (-2 : Int32) G dX10_strength_32 ⟨rfl, trivial⟩ hT hS
    · skip
      refine lv_iconst (v := (-1 : Int32)) hx hb dX10_strength_8 (by decide) ?_
      exact hret H locs ls 9 (-1 : Int32) G dX10_strength_9 ⟨rfl, trivial⟩ hT hS
  exact main s.heap [] hT va_S.rf

abbrev rmX10_lay : Room := { frames := 2, cells := 0, slots := 0, locals := 47 }
set_option maxHeartbeats 4000000 in
set_option maxRecDepth 100000 in
theorem c_X10_lay (l : Launch) (D : va_G) (cy : Nat → ClassId) (κ : Nat → Nat) (G : Gh) (p0 : Nat) (k0 : κ p0 = 11) (p1 : Int32) (p2 : Int32) (p3 : Int32) (p4 : Int32) : Met l yX10_lay wsX10_lay rmX10_lay (va_Pc [.ref p0, .int p1, .int p2, .int p3, .int p4] (fun U => WW D cy κ G U)) (va_Qi (fun (r : Int32) (u : Gh) => lowG u G ∧ (True)) (fun u t => WW D cy κ u t) (AA κ)) 0 0 (AA κ) := by
  refine Met.twi (cc := cX10_lay) (maxL := 5) (by decide) rfl (Nat.le_of_ble_eq_true rfl) ?_
  intro p e s m args below meth c Q hx hb hml hown hts hK hT hret ls hl
  have hl : lv_has ls 5 [(0, .ref p0), (1, .int p1), (2, .int p2), (3, .int p3), (4, .int p4)] := hl
  have hcm1 : (-1 : Int32).toInt = -1 := rfl
  have hc0 : (0 : Int32).toInt = 0 := rfl
  have hc3 : (3 : Int32).toInt = 3 := rfl
  have hc1 : (1 : Int32).toInt = 1 := rfl
  have hfl19 := hts (.fieldLink RX10 19 "PlyPlates" "plates" "[LPlyPlates$Plate;") (by decide +kernel)
  have hin10 : ∀ w ∈ u_ws RX10 TX10 11, w ∈ wsX10_lay := by decide +kernel
  have hfl119 := hts (.fieldLink RX10 119 "PlyPlates$Plate" "size" "I") (by decide +kernel)
  have hin7 : ∀ w ∈ u_ws RX7 TX7 2, w ∈ wsX10_lay := by decide +kernel
  have hcm4 : (-4 : Int32).toInt = -4 := rfl
  have hcm2 : (-2 : Int32).toInt = -2 := rfl
  have main : ∀ (H : Heap) (locs : List Loc), TW D cy κ G H → va_S (AA κ) s.heap H locs → W p l e rmX10_lay s m args below meth c H locs 0 0 Q (F0 m 0 ls []) := by
    intro H locs hT hS
    refine lv_aload_n hx hb dX10_lay_0 rfl (lv_at hl 0 rfl) ?_
    refine lv_iload_n hx hb dX10_lay_1 rfl (lv_at hl 1 rfl) ?_
    refine tw_Vi (q := (RX10, TX10, 11)) (As := [.int p1]) (rest := []) ⟨hx, hb, hml, hown, hts⟩ (c_X10_isPlate l D cy κ G p0 k0 p1) (cwV 1 hts gX10_lay_X10_isPlate rfl rfl rfl (by decide +kernel) ⟨Nat.le_of_ble_eq_true rfl, Nat.le_of_ble_eq_true rfl⟩) hK hT hS k0 (by decide) rfl rfl hl.1 rfl (Nat.le_of_ble_eq_true rfl) dX10_lay_2 ⟨Nat.zero_le _, Nat.zero_le _⟩ (fun x1 u2 H locs hpu2 hT hS => ?_)
    obtain ⟨huu2, qu2⟩ := hpu2
    rw [huu2] at hT
    refine tb_if_eq (tgt := 25) hx hb dX10_lay_5 (by decide) (fun c3 => ?_) (fun c3 => ?_)
    · skip
      refine lv_iconst (v := (-1 : Int32)) hx hb dX10_lay_25 (by decide) ?_
      exact hret H locs ls 26 (-1 : Int32) G dX10_lay_26 ⟨(lowG.rf G), trivial⟩ hT hS
    · skip
      refine lv_aload_n hx hb dX10_lay_8 rfl (lv_at hl 0 rfl) ?_
      refine lv_iload_n hx hb dX10_lay_9 rfl (lv_at hl 2 rfl) ?_
      refine tw_Vi (q := (RX10, TX10, 11)) (As := [.int p2]) (rest := []) ⟨hx, hb, hml, hown, hts⟩ (c_X10_isStuff l D cy κ G p0 k0 p2) (cwV 1 hts gX10_lay_X10_isStuff rfl rfl rfl (by decide +kernel) ⟨Nat.le_of_ble_eq_true rfl, Nat.le_of_ble_eq_true rfl⟩) hK hT hS k0 (by decide) rfl rfl hl.1 rfl (Nat.le_of_ble_eq_true rfl) dX10_lay_10 ⟨Nat.zero_le _, Nat.zero_le _⟩ (fun x4 u5 H locs hpu5 hT hS => ?_)
      obtain ⟨huu5, qu5⟩ := hpu5
      rw [huu5] at hT
      refine tb_if_eq (tgt := 25) hx hb dX10_lay_13 (by decide) (fun c6 => ?_) (fun c6 => ?_)
      · skip
        refine lv_iconst (v := (-1 : Int32)) hx hb dX10_lay_25 (by decide) ?_
        exact hret H locs ls 26 (-1 : Int32) G dX10_lay_26 ⟨(lowG.rf G), trivial⟩ hT hS
      · skip
        refine lv_iload_n hx hb dX10_lay_16 rfl (lv_at hl 3 rfl) ?_
        refine lv_iconst (v := (0 : Int32)) hx hb dX10_lay_17 (by decide) ?_
        refine lv_iconst (v := (3 : Int32)) hx hb dX10_lay_18 (by decide) ?_
        refine tw_Si (As := [.int p3, .int (0 : Int32), .int (3 : Int32)]) (rest := []) ⟨hx, hb, hml, hown, hts⟩ (c_X10_isWithin l D cy κ G p3 (0 : Int32) (3 : Int32)) (va_cwS 3 hts gX10_lay_X10_isWithin rfl rfl rfl (by decide +kernel) ⟨Nat.le_of_ble_eq_true rfl, Nat.le_of_ble_eq_true rfl⟩) hK hT hS rfl hl.1 rfl (Nat.le_of_ble_eq_true rfl) dX10_lay_19 ⟨Nat.zero_le _, Nat.zero_le _⟩ (fun x7 u8 H locs hpu8 hT hS => ?_)
        obtain ⟨huu8, qu8⟩ := hpu8
        rw [huu8] at hT
        refine tb_if_ne (tgt := 27) hx hb dX10_lay_22 (by decide) (fun c9 => ?_) (fun c9 => ?_)
        · skip
          refine lv_iload hx hb dX10_lay_27 (lv_at hl 4 rfl) ?_
          refine lv_iconst (v := (1 : Int32)) hx hb dX10_lay_29 (by decide) ?_
          refine lv_iconst (v := (3 : Int32)) hx hb dX10_lay_30 (by decide) ?_
          refine tw_Si (As := [.int p4, .int (1 : Int32), .int (3 : Int32)]) (rest := []) ⟨hx, hb, hml, hown, hts⟩ (c_X10_isWithin l D cy κ G p4 (1 : Int32) (3 : Int32)) (va_cwS 3 hts gX10_lay_X10_isWithin rfl rfl rfl (by decide +kernel) ⟨Nat.le_of_ble_eq_true rfl, Nat.le_of_ble_eq_true rfl⟩) hK hT hS rfl hl.1 rfl (Nat.le_of_ble_eq_true rfl) dX10_lay_31 ⟨Nat.zero_le _, Nat.zero_le _⟩ (fun x10 u11 H locs hpu11 hT hS => ?_)
          obtain ⟨huu11, qu11⟩ := hpu11
          rw [huu11] at hT
          refine tb_if_ne (tgt := 40) hx hb dX10_lay_34 (by decide) (fun c12 => ?_) (fun c12 => ?_)
          · skip
            refine lv_aload_n hx hb dX10_lay_40 rfl (lv_at hl 0 rfl) ?_
            refine gf_10_1 hx hb hts hin10 hown hK hT k0 hfl19 dX10_lay_41 (fun a13 ka13 fva13 => ?_)
            refine lv_iload_n hx hb dX10_lay_44 rfl (lv_at hl 1 rfl) ?_
            refine tw_ra (K := 30) (t := 3) (ty := .object RX7) (n := 4) (P := fun b => κ b = 8) hx hb hK hT ka13 (by decide) rfl rfl rfl rfl (by omega) rfl dX10_lay_45 (fun a14 ka14 fva14 => ?_)
            refine tw_Vi (q := (RX7, TX7, 2)) (As := []) (rest := []) ⟨hx, hb, hml, hown, hts⟩ (c_X7_isFull l D cy κ G a14 ka14) (cwV 0 hts gX10_lay_X7_isFull rfl rfl rfl (by decide +kernel) ⟨Nat.le_of_ble_eq_true rfl, Nat.le_of_ble_eq_true rfl⟩) hK hT hS ka14 (by decide) rfl rfl hl.1 rfl (Nat.le_of_ble_eq_true rfl) dX10_lay_46 ⟨Nat.zero_le _, Nat.zero_le _⟩ (fun x15 u16 H locs hpu16 hT hS => ?_)
            obtain ⟨huu16, qu16⟩ := hpu16
            rw [huu16] at hT
            refine tb_if_eq (tgt := 55) hx hb dX10_lay_49 (by decide) (fun c17 => ?_) (fun c17 => ?_)
            · skip
              refine lv_aload_n hx hb dX10_lay_55 rfl (lv_at hl 0 rfl) ?_
              refine gf_10_1 hx hb hts hin10 hown hK hT k0 hfl19 dX10_lay_56 (fun a18 ka18 fva18 => ?_)
              refine lv_iload_n hx hb dX10_lay_59 rfl (lv_at hl 1 rfl) ?_
              refine tw_ra (K := 30) (t := 3) (ty := .object RX7) (n := 4) (P := fun b => κ b = 8) hx hb hK hT ka18 (by decide) rfl rfl rfl rfl (by omega) rfl dX10_lay_60 (fun a19 ka19 fva19 => ?_)
              refine lv_iload_n hx hb dX10_lay_61 rfl (lv_at hl 2 rfl) ?_
              refine lv_iload_n hx hb dX10_lay_62 rfl (lv_at hl 3 rfl) ?_
              refine lv_iload hx hb dX10_lay_63 (lv_at hl 4 rfl) ?_
              refine tw_Vv (q := (RX7, TX7, 2)) (As := [.int p2, .int p3, .int p4]) (rest := []) ⟨hx, hb, hml, hown, hts⟩ (c_X7_put l D cy κ G a19 ka19 p2 (by omega) p3 p4) (cwV 3 hts gX10_lay_X7_put rfl rfl rfl (by decide +kernel) ⟨Nat.le_of_ble_eq_true rfl, Nat.le_of_ble_eq_true rfl⟩) hK hT hS ka19 (by decide) rfl rfl hl.1 rfl (Nat.le_of_ble_eq_true rfl) dX10_lay_65 ⟨Nat.zero_le _, Nat.zero_le _⟩ (fun u21 H locs hpu21 hT hS => ?_)
              obtain ⟨qu21, ru21⟩ := hpu21
              refine lv_aload_n hx hb dX10_lay_68 rfl (lv_at hl 0 rfl) ?_
              refine gf_10_1 hx hb hts hin10 hown hK hT k0 hfl19 dX10_lay_69 (fun a22 ka22 fva22 => ?_)
              refine lv_iload_n hx hb dX10_lay_72 rfl (lv_at hl 1 rfl) ?_
              refine tw_ra (K := 30) (t := 3) (ty := .object RX7) (n := 4) (P := fun b => κ b = 8) hx hb hK hT ka22 (by decide) rfl rfl rfl rfl (by omega) rfl dX10_lay_73 (fun a23 ka23 fva23 => ?_)
              refine gf_7_1 hx hb hts hin7 hown hK hT ka23 hfl119 dX10_lay_74 (fun x24 kx24 fvx24 => ?_)
              have gx24 := congrArg Int32.toInt kx24.1
              refine lv_iconst (v := (1 : Int32)) hx hb dX10_lay_77 (by decide) ?_
              refine lv_isub hx hb dX10_lay_78 ?_
              refine lv_topi (fun x25 ex25 => ?_)
              have tx25 : x25.toInt = x24.toInt - (1 : Int32).toInt := by rw [ex25]; exact ti_sub (by have := i32b x24; have := i32b (1 : Int32); omega)
              exact hret H locs ls 79 x25 u21 dX10_lay_79 ⟨(qu21.tr (lowG.rf G)), trivial⟩ hT hS
            · skip
              refine lv_bipush (v := (-4 : Int32)) hx hb dX10_lay_52 (by decide) ?_
              exact hret H locs ls 54 (-4 : Int32) G dX10_lay_54 ⟨(lowG.rf G), trivial⟩ hT hS
          · skip
            refine lv_bipush (v := (-2 : Int32)) hx hb dX10_lay_37 (by decide) ?_
            exact hret H locs ls 39 (-2 : Int32) G dX10_lay_39 ⟨(lowG.rf G), trivial⟩ hT hS
        · skip
          refine lv_iconst (v := (-1 : Int32)) hx hb dX10_lay_25 (by decide) ?_
          exact hret H locs ls 26 (-1 : Int32) G dX10_lay_26 ⟨(lowG.rf G), trivial⟩ hT hS
  exact main s.heap [] hT va_S.rf

abbrev rmX10_peel : Room := { frames := 2, cells := 0, slots := 0, locals := 43 }
set_option maxHeartbeats 4000000 in
set_option maxRecDepth 100000 in
theorem c_X10_peel (l : Launch) (D : va_G) (cy : Nat → ClassId) (κ : Nat → Nat) (G : Gh) (p0 : Nat) (k0 : κ p0 = 11) (p1 : Int32) : Met l yX10_peel wsX10_peel rmX10_peel (va_Pc [.ref p0, .int p1] (fun U => WW D cy κ G U)) (va_Qi (fun (r : Int32) (u : Gh) => lowG u G ∧ (True)) (fun u t => WW D cy κ u t) (AA κ)) 0 0 (AA κ) := by
  refine Met.twi (cc := cX10_peel) (maxL := 2) (by decide) rfl (Nat.le_of_ble_eq_true rfl) ?_
  intro p e s m args below meth c Q hx hb hml hown hts hK hT hret ls hl
  have hl : lv_has ls 2 [(0, .ref p0), (1, .int p1)] := hl
  have hfl19 := hts (.fieldLink RX10 19 "PlyPlates" "plates" "[LPlyPlates$Plate;") (by decide +kernel)
  have hin10 : ∀ w ∈ u_ws RX10 TX10 11, w ∈ wsX10_peel := by decide +kernel
  have hfl119 := hts (.fieldLink RX10 119 "PlyPlates$Plate" "size" "I") (by decide +kernel)
  have hin7 : ∀ w ∈ u_ws RX7 TX7 2, w ∈ wsX10_peel := by decide +kernel
  have hc1 : (1 : Int32).toInt = 1 := rfl
  have hcm3 : (-3 : Int32).toInt = -3 := rfl
  have hcm1 : (-1 : Int32).toInt = -1 := rfl
  have main : ∀ (H : Heap) (locs : List Loc), TW D cy κ G H → va_S (AA κ) s.heap H locs → W p l e rmX10_peel s m args below meth c H locs 0 0 Q (F0 m 0 ls []) := by
    intro H locs hT hS
    refine lv_aload_n hx hb dX10_peel_0 rfl (lv_at hl 0 rfl) ?_
    refine lv_iload_n hx hb dX10_peel_1 rfl (lv_at hl 1 rfl) ?_
    refine tw_Vi (q := (RX10, TX10, 11)) (As := [.int p1]) (rest := []) ⟨hx, hb, hml, hown, hts⟩ (c_X10_isPlate l D cy κ G p0 k0 p1) (cwV 1 hts gX10_peel_X10_isPlate rfl rfl rfl (by decide +kernel) ⟨Nat.le_of_ble_eq_true rfl, Nat.le_of_ble_eq_true rfl⟩) hK hT hS k0 (by decide) rfl rfl hl.1 rfl (Nat.le_of_ble_eq_true rfl) dX10_peel_2 ⟨Nat.zero_le _, Nat.zero_le _⟩ (fun x1 u2 H locs hpu2 hT hS => ?_)
    obtain ⟨huu2, qu2⟩ := hpu2
    rw [huu2] at hT
    refine tb_if_ne (tgt := 10) hx hb dX10_peel_5 (by decide) (fun c3 => ?_) (fun c3 => ?_)
    · skip
      refine lv_aload_n hx hb dX10_peel_10 rfl (lv_at hl 0 rfl) ?_
      refine gf_10_1 hx hb hts hin10 hown hK hT k0 hfl19 dX10_peel_11 (fun a4 ka4 fva4 => ?_)
      refine lv_iload_n hx hb dX10_peel_14 rfl (lv_at hl 1 rfl) ?_
      refine tw_ra (K := 30) (t := 3) (ty := .object RX7) (n := 4) (P := fun b => κ b = 8) hx hb hK hT ka4 (by decide) rfl rfl rfl rfl (by omega) rfl dX10_peel_15 (fun a5 ka5 fva5 => ?_)
      refine gf_7_1 hx hb hts hin7 hown hK hT ka5 hfl119 dX10_peel_16 (fun x6 kx6 fvx6 => ?_)
      have gx6 := congrArg Int32.toInt kx6.1
      refine tb_if_ne (tgt := 25) hx hb dX10_peel_19 (by decide) (fun c7 => ?_) (fun c7 => ?_)
      · skip
        refine lv_aload_n hx hb dX10_peel_25 rfl (lv_at hl 0 rfl) ?_
        refine gf_10_1 hx hb hts hin10 hown hK hT k0 hfl19 dX10_peel_26 (fun a8 ka8 fva8 => ?_)
        obtain rfl : a4 = a8 := eRef (FV.eq fva4 fva8)
        refine lv_iload_n hx hb dX10_peel_29 rfl (lv_at hl 1 rfl) ?_
        refine tw_ra (K := 30) (t := 3) (ty := .object RX7) (n := 4) (P := fun b => κ b = 8) hx hb hK hT ka4 (by decide) rfl rfl rfl rfl (by omega) rfl dX10_peel_30 (fun a9 ka9 fva9 => ?_)
        obtain rfl : a5 = a9 := eRef (AV.eq fva5 fva9)
        refine lv_dup hx hb dX10_peel_31 rfl ?_
        refine gf_7_1 hx hb hts hin7 hown hK hT ka5 hfl119 dX10_peel_32 (fun x10 kx10 fvx10 => ?_)
        have gx10 := congrArg Int32.toInt kx10.1
        obtain rfl : x6 = x10 := eInt (FV.eq fvx6 fvx10)
        refine lv_iconst (v := (1 : Int32)) hx hb dX10_peel_35 (by decide) ?_
        refine lv_isub hx hb dX10_peel_36 ?_
        refine lv_topi (fun x11 ex11 => ?_)
        have tx11 : x11.toInt = x6.toInt - (1 : Int32).toInt := by rw [ex11]; exact ti_sub (by have := i32b x6; have := i32b (1 : Int32); omega)
        refine pg_7_1 hx hb hts hin7 hown hK hT hS ka5 hfl119 dX10_peel_37 (by omega) (fun H locs hT hS => ?_)
        refine lv_aload_n hx hb dX10_peel_40 rfl (lv_at hl 0 rfl) ?_
        refine gf_10_1 hx hb hts hin10 hown hK hT k0 hfl19 dX10_peel_41 (fun a12 ka12 fva12 => ?_)
        refine lv_iload_n hx hb dX10_peel_44 rfl (lv_at hl 1 rfl) ?_
        refine tw_ra (K := 30) (t := 3) (ty := .object RX7) (n := 4) (P := fun b => κ b = 8) hx hb hK hT ka12 (by decide) rfl rfl rfl rfl (by omega) rfl dX10_peel_45 (fun a13 ka13 fva13 => ?_)
        refine gf_7_1 hx hb hts hin7 hown hK hT ka13 hfl119 dX10_peel_46 (fun x14 kx14 fvx14 => ?_)
        have gx14 := congrArg Int32.toInt kx14.1
        exact hret H locs ls 49 x14 (szG G a5 x11) dX10_peel_49 ⟨((lowG.sz G a5 x11).tr (lowG.rf G)), trivial⟩ hT hS
      · skip
        refine lv_bipush (v := (-3 : Int32)) hx hb dX10_peel_22 (by decide) ?_
        exact hret H locs ls 24 (-3 : Int32) G dX10_peel_24 ⟨(lowG.rf G), trivial⟩ hT hS
    · skip
      refine lv_iconst (v := (-1 : Int32)) hx hb dX10_peel_8 (by decide) ?_
      exact hret H locs ls 9 (-1 : Int32) G dX10_peel_9 ⟨(lowG.rf G), trivial⟩ hT hS
  exact main s.heap [] hT va_S.rf

abbrev rmX10_hurt : Room := { frames := 3, cells := 0, slots := 0, locals := 65 }
set_option maxHeartbeats 4000000 in
set_option maxRecDepth 100000 in
theorem c_X10_hurt (l : Launch) (D : va_G) (cy : Nat → ClassId) (κ : Nat → Nat) (G : Gh) (p0 : Nat) (k0 : κ p0 = 11) (p1 : Int32) (p2 : Int32) (p3 : Int32) : Met l yX10_hurt wsX10_hurt rmX10_hurt (va_Pc [.ref p0, .int p1, .int p2, .int p3] (fun U => WW D cy κ G U)) (va_Qi (fun (r : Int32) (u : Gh) => u = G ∧ (True)) (fun u t => WW D cy κ u t) (AA κ)) 0 0 (AA κ) := by
  refine Met.twi (cc := cX10_hurt) (maxL := 6) (by decide) rfl (Nat.le_of_ble_eq_true rfl) ?_
  intro p e s m args below meth c Q hx hb hml hown hts hK hT hret ls hl
  have hl : lv_has ls 6 [(0, .ref p0), (1, .int p1), (2, .int p2), (3, .int p3)] := hl
  have hc0 : (0 : Int32).toInt = 0 := rfl
  have hc2 : (2 : Int32).toInt = 2 := rfl
  have hfl19 := hts (.fieldLink RX10 19 "PlyPlates" "plates" "[LPlyPlates$Plate;") (by decide +kernel)
  have hin10 : ∀ w ∈ u_ws RX10 TX10 11, w ∈ wsX10_hurt := by decide +kernel
  have hfl126 := hts (.fieldLink RX10 126 "PlyPlates$Plate" "layers" "[LPlyPlates$Layer;") (by decide +kernel)
  have hin7 : ∀ w ∈ u_ws RX7 TX7 2, w ∈ wsX10_hurt := by decide +kernel
  have hfl130 := hts (.fieldLink RX10 130 "PlyPlates$Layer" "broken" "I") (by decide +kernel)
  have hin5 : ∀ w ∈ u_ws RX5 TX5 4, w ∈ wsX10_hurt := by decide +kernel
  have hcm2 : (-2 : Int32).toInt = -2 := rfl
  have hcm1 : (-1 : Int32).toInt = -1 := rfl
  have main : ∀ (H : Heap) (locs : List Loc), TW D cy κ G H → va_S (AA κ) s.heap H locs → W p l e rmX10_hurt s m args below meth c H locs 0 0 Q (F0 m 0 ls []) := by
    intro H locs hT hS
    refine lv_aload_n hx hb dX10_hurt_0 rfl (lv_at hl 0 rfl) ?_
    refine lv_iload_n hx hb dX10_hurt_1 rfl (lv_at hl 1 rfl) ?_
    refine lv_iload_n hx hb dX10_hurt_2 rfl (lv_at hl 2 rfl) ?_
    refine tw_Vi (q := (RX10, TX10, 11)) (As := [.int p1, .int p2]) (rest := []) ⟨hx, hb, hml, hown, hts⟩ (c_X10_isLayer l D cy κ G p0 k0 p1 p2) (cwV 2 hts gX10_hurt_X10_isLayer rfl rfl rfl (by decide +kernel) ⟨Nat.le_of_ble_eq_true rfl, Nat.le_of_ble_eq_true rfl⟩) hK hT hS k0 (by decide) rfl rfl hl.1 rfl (Nat.le_of_ble_eq_true rfl) dX10_hurt_3 ⟨Nat.zero_le _, Nat.zero_le _⟩ (fun x1 u2 H locs hpu2 hT hS => ?_)
    obtain ⟨huu2, qu2⟩ := hpu2
    rw [huu2] at hT
    refine tb_if_ne (tgt := 11) hx hb dX10_hurt_6 (by decide) (fun c3 => ?_) (fun c3 => ?_)
    · skip
      refine lv_iload_n hx hb dX10_hurt_11 rfl (lv_at hl 3 rfl) ?_
      refine lv_iconst (v := (0 : Int32)) hx hb dX10_hurt_12 (by decide) ?_
      refine lv_iconst (v := (2 : Int32)) hx hb dX10_hurt_13 (by decide) ?_
      refine tw_Si (As := [.int p3, .int (0 : Int32), .int (2 : Int32)]) (rest := []) ⟨hx, hb, hml, hown, hts⟩ (c_X10_isWithin l D cy κ G p3 (0 : Int32) (2 : Int32)) (va_cwS 3 hts gX10_hurt_X10_isWithin rfl rfl rfl (by decide +kernel) ⟨Nat.le_of_ble_eq_true rfl, Nat.le_of_ble_eq_true rfl⟩) hK hT hS rfl hl.1 rfl (Nat.le_of_ble_eq_true rfl) dX10_hurt_14 ⟨Nat.zero_le _, Nat.zero_le _⟩ (fun x4 u5 H locs hpu5 hT hS => ?_)
      obtain ⟨huu5, qu5⟩ := hpu5
      rw [huu5] at hT
      refine tb_if_ne (tgt := 23) hx hb dX10_hurt_17 (by decide) (fun c6 => ?_) (fun c6 => ?_)
      · skip
        refine lv_aload_n hx hb dX10_hurt_23 rfl (lv_at hl 0 rfl) ?_
        refine gf_10_1 hx hb hts hin10 hown hK hT k0 hfl19 dX10_hurt_24 (fun a7 ka7 fva7 => ?_)
        refine lv_iload_n hx hb dX10_hurt_27 rfl (lv_at hl 1 rfl) ?_
        refine tw_ra (K := 30) (t := 3) (ty := .object RX7) (n := 4) (P := fun b => κ b = 8) hx hb hK hT ka7 (by decide) rfl rfl rfl rfl (by omega) rfl dX10_hurt_28 (fun a8 ka8 fva8 => ?_)
        refine gf_7_0 hx hb hts hin7 hown hK hT ka8 hfl126 dX10_hurt_29 (fun a9 ka9 fva9 => ?_)
        refine lv_iload_n hx hb dX10_hurt_32 rfl (lv_at hl 2 rfl) ?_
        refine tw_ra (K := 29) (t := 2) (ty := .object RX5) (n := 12) (P := fun b => κ b = 6) hx hb hK hT ka9 (by decide) rfl rfl rfl rfl (by omega) rfl dX10_hurt_33 (fun a10 ka10 fva10 => ?_)
        refine lv_astore (lv' := [(4, .ref a10), (0, .ref p0), (1, .int p1), (2, .int p2), (3, .int p3)]) hx hb dX10_hurt_34 hl (by decide) rfl (fun ls hl => ?_)
        refine lv_aload hx hb dX10_hurt_36 (lv_at hl 0 rfl) ?_
        refine gf_5_3 hx hb hts hin5 hown hK hT ka10 hfl130 dX10_hurt_38 (fun x11 kx11 fvx11 => ?_)
        refine lv_istore (lv' := [(5, .int x11), (4, .ref a10), (0, .ref p0), (1, .int p1), (2, .int p2), (3, .int p3)]) hx hb dX10_hurt_41 hl (by decide) rfl (fun ls hl => ?_)
        refine lv_aload hx hb dX10_hurt_43 (lv_at hl 1 rfl) ?_
        refine lv_iload_n hx hb dX10_hurt_45 rfl (lv_at hl 5 rfl) ?_
        refine pf_5_3 hx hb hts hin5 hown hK hT hS ka10 hfl130 dX10_hurt_46 (fun H locs hT hS => ?_)
        refine lv_iload hx hb dX10_hurt_49 (lv_at hl 0 rfl) ?_
        exact hret H locs ls 51 x11 G dX10_hurt_51 ⟨rfl, trivial⟩ hT hS
      · skip
        refine lv_bipush (v := (-2 : Int32)) hx hb dX10_hurt_20 (by decide) ?_
        exact hret H locs ls 22 (-2 : Int32) G dX10_hurt_22 ⟨rfl, trivial⟩ hT hS
    · skip
      refine lv_iconst (v := (-1 : Int32)) hx hb dX10_hurt_9 (by decide) ?_
      exact hret H locs ls 10 (-1 : Int32) G dX10_hurt_10 ⟨rfl, trivial⟩ hT hS
  exact main s.heap [] hT va_S.rf

abbrev rmX10_layer : Room := { frames := 3, cells := 0, slots := 0, locals := 66 }
set_option maxHeartbeats 4000000 in
set_option maxRecDepth 100000 in
theorem c_X10_layer (l : Launch) (D : va_G) (cy : Nat → ClassId) (κ : Nat → Nat) (G : Gh) (p0 : Nat) (k0 : κ p0 = 11) (p1 : Int32) (p2 : Int32) (p3 : Int32) : Met l yX10_layer wsX10_layer rmX10_layer (va_Pc [.ref p0, .int p1, .int p2, .int p3] (fun U => WW D cy κ G U)) (va_Qi (fun (r : Int32) (u : Gh) => u = G ∧ (True)) (fun u t => WW D cy κ u t) (AA κ)) 0 0 (AA κ) := by
  refine Met.twi (cc := cX10_layer) (maxL := 5) (by decide) rfl (Nat.le_of_ble_eq_true rfl) ?_
  intro p e s m args below meth c Q hx hb hml hown hts hK hT hret ls hl
  have hl : lv_has ls 5 [(0, .ref p0), (1, .int p1), (2, .int p2), (3, .int p3)] := hl
  have hfl19 := hts (.fieldLink RX10 19 "PlyPlates" "plates" "[LPlyPlates$Plate;") (by decide +kernel)
  have hin10 : ∀ w ∈ u_ws RX10 TX10 11, w ∈ wsX10_layer := by decide +kernel
  have hfl126 := hts (.fieldLink RX10 126 "PlyPlates$Plate" "layers" "[LPlyPlates$Layer;") (by decide +kernel)
  have hin7 : ∀ w ∈ u_ws RX7 TX7 2, w ∈ wsX10_layer := by decide +kernel
  have hc4 : (4 : Int32).toInt = 4 := rfl
  have hc9 : (9 : Int32).toInt = 9 := rfl
  have hcm1 : (-1 : Int32).toInt = -1 := rfl
  have hfl69 := hts (.fieldLink RX10 69 "PlyPlates" "flat" "LPlyPlates$Flat;") (by decide +kernel)
  have hfl135 := hts (.fieldLink RX10 135 "PlyPlates$Layer" "stuffNumber" "I") (by decide +kernel)
  have hin5 : ∀ w ∈ u_ws RX5 TX5 4, w ∈ wsX10_layer := by decide +kernel
  have hfl138 := hts (.fieldLink RX10 138 "PlyPlates$Layer" "way" "I") (by decide +kernel)
  have hfl141 := hts (.fieldLink RX10 141 "PlyPlates$Layer" "thick" "I") (by decide +kernel)
  have hfl130 := hts (.fieldLink RX10 130 "PlyPlates$Layer" "broken" "I") (by decide +kernel)
  have main : ∀ (H : Heap) (locs : List Loc), TW D cy κ G H → va_S (AA κ) s.heap H locs → W p l e rmX10_layer s m args below meth c H locs 0 0 Q (F0 m 0 ls []) := by
    intro H locs hT hS
    refine lv_aload_n hx hb dX10_layer_0 rfl (lv_at hl 0 rfl) ?_
    refine lv_iload_n hx hb dX10_layer_1 rfl (lv_at hl 1 rfl) ?_
    refine lv_iload_n hx hb dX10_layer_2 rfl (lv_at hl 2 rfl) ?_
    refine tw_Vi (q := (RX10, TX10, 11)) (As := [.int p1, .int p2]) (rest := []) ⟨hx, hb, hml, hown, hts⟩ (c_X10_isLayer l D cy κ G p0 k0 p1 p2) (cwV 2 hts gX10_layer_X10_isLayer rfl rfl rfl (by decide +kernel) ⟨Nat.le_of_ble_eq_true rfl, Nat.le_of_ble_eq_true rfl⟩) hK hT hS k0 (by decide) rfl rfl hl.1 rfl (Nat.le_of_ble_eq_true rfl) dX10_layer_3 ⟨Nat.zero_le _, Nat.zero_le _⟩ (fun x1 u2 H locs hpu2 hT hS => ?_)
    obtain ⟨huu2, qu2⟩ := hpu2
    rw [huu2] at hT
    refine tb_if_ne (tgt := 11) hx hb dX10_layer_6 (by decide) (fun c3 => ?_) (fun c3 => ?_)
    · skip
      refine lv_aload_n hx hb dX10_layer_11 rfl (lv_at hl 0 rfl) ?_
      refine gf_10_1 hx hb hts hin10 hown hK hT k0 hfl19 dX10_layer_12 (fun a4 ka4 fva4 => ?_)
      refine lv_iload_n hx hb dX10_layer_15 rfl (lv_at hl 1 rfl) ?_
      refine tw_ra (K := 30) (t := 3) (ty := .object RX7) (n := 4) (P := fun b => κ b = 8) hx hb hK hT ka4 (by decide) rfl rfl rfl rfl (by omega) rfl dX10_layer_16 (fun a5 ka5 fva5 => ?_)
      refine gf_7_0 hx hb hts hin7 hown hK hT ka5 hfl126 dX10_layer_17 (fun a6 ka6 fva6 => ?_)
      refine lv_iload_n hx hb dX10_layer_20 rfl (lv_at hl 2 rfl) ?_
      refine tw_ra (K := 29) (t := 2) (ty := .object RX5) (n := 12) (P := fun b => κ b = 6) hx hb hK hT ka6 (by decide) rfl rfl rfl rfl (by omega) rfl dX10_layer_21 (fun a7 ka7 fva7 => ?_)
      refine lv_astore (lv' := [(4, .ref a7), (0, .ref p0), (1, .int p1), (2, .int p2), (3, .int p3)]) hx hb dX10_layer_22 hl (by decide) rfl (fun ls hl => ?_)
      refine lv_iload_n hx hb dX10_layer_24 rfl (lv_at hl 4 rfl) ?_
      rcases (show p3.toInt < 0 ∨ 3 < p3.toInt ∨ p3.toInt = 0 ∨ p3.toInt = 1 ∨ p3.toInt = 2 ∨ p3.toInt = 3 by omega) with c8 | c8 | c8 | c8 | c8 | c8
      · refine lv_tableOut (tgt := 80) hx hb dX10_layer_25 (Or.inl c8) (by decide) ?_
        refine lv_iload_n hx hb dX10_layer_80 rfl (lv_at hl 4 rfl) ?_
        refine lv_iconst (v := (4 : Int32)) hx hb dX10_layer_81 (by decide) ?_
        refine lv_bipush (v := (9 : Int32)) hx hb dX10_layer_82 (by decide) ?_
        refine tw_Si (As := [.int p3, .int (4 : Int32), .int (9 : Int32)]) (rest := []) ⟨hx, hb, hml, hown, hts⟩ (c_X10_isWithin l D cy κ G p3 (4 : Int32) (9 : Int32)) (va_cwS 3 hts gX10_layer_X10_isWithin rfl rfl rfl (by decide +kernel) ⟨Nat.le_of_ble_eq_true rfl, Nat.le_of_ble_eq_true rfl⟩) hK hT hS rfl hl.1 rfl (Nat.le_of_ble_eq_true rfl) dX10_layer_84 ⟨Nat.zero_le _, Nat.zero_le _⟩ (fun x9 u10 H locs hpu10 hT hS => ?_)
        obtain ⟨huu10, qu10⟩ := hpu10
        rw [huu10] at hT
        refine tb_if_eq (tgt := 105) hx hb dX10_layer_87 (by decide) (fun c11 => ?_) (fun c11 => ?_)
        · skip
          refine lv_iconst (v := (-1 : Int32)) hx hb dX10_layer_105 (by decide) ?_
          exact hret H locs ls 106 (-1 : Int32) G dX10_layer_106 ⟨rfl, trivial⟩ hT hS
        · skip
          refine lv_aload_n hx hb dX10_layer_90 rfl (lv_at hl 1 rfl) ?_
          refine gf_10_7 hx hb hts hin10 hown hK hT k0 hfl69 dX10_layer_91 (fun a12 ka12 fva12 => ?_)
          refine lv_aload hx hb dX10_layer_94 (lv_at hl 0 rfl) ?_
          refine lv_iload_n hx hb dX10_layer_96 rfl (lv_at hl 4 rfl) ?_
          refine lv_iconst (v := (4 : Int32)) hx hb dX10_layer_97 (by decide) ?_
          refine lv_isub hx hb dX10_layer_98 ?_
          refine lv_topi (fun x13 ex13 => ?_)
          have tx13 : x13.toInt = p3.toInt - (4 : Int32).toInt := by rw [ex13]; exact ti_sub (by have := i32b p3; have := i32b (4 : Int32); omega)
          refine tw_Vi (q := (RX2, TX2, 13)) (As := [.ref a7, .int x13]) (rest := []) ⟨hx, hb, hml, hown, hts⟩ (c_X2_turnedNumber l D cy κ G a12 ka12 a7 ka7 x13 (by omega)) (cwV 2 hts gX10_layer_X2_turnedNumber rfl rfl rfl (by decide +kernel) ⟨Nat.le_of_ble_eq_true rfl, Nat.le_of_ble_eq_true rfl⟩) hK hT hS ka12 (by decide) rfl rfl hl.1 rfl (Nat.le_of_ble_eq_true rfl) dX10_layer_99 ⟨Nat.zero_le _, Nat.zero_le _⟩ (fun x14 u15 H locs hpu15 hT hS => ?_)
          obtain ⟨huu15, qu15⟩ := hpu15
          rw [huu15] at hT
          refine lv_goto (tgt := 106) hx hb dX10_layer_102 (by decide) ?_
          exact hret H locs ls 106 x14 G dX10_layer_106 ⟨rfl, trivial⟩ hT hS
      · refine lv_tableOut (tgt := 80) hx hb dX10_layer_25 (Or.inr c8) (by decide) ?_
        refine lv_iload_n hx hb dX10_layer_80 rfl (lv_at hl 4 rfl) ?_
        refine lv_iconst (v := (4 : Int32)) hx hb dX10_layer_81 (by decide) ?_
        refine lv_bipush (v := (9 : Int32)) hx hb dX10_layer_82 (by decide) ?_
        refine tw_Si (As := [.int p3, .int (4 : Int32), .int (9 : Int32)]) (rest := []) ⟨hx, hb, hml, hown, hts⟩ (c_X10_isWithin l D cy κ G p3 (4 : Int32) (9 : Int32)) (va_cwS 3 hts gX10_layer_X10_isWithin rfl rfl rfl (by decide +kernel) ⟨Nat.le_of_ble_eq_true rfl, Nat.le_of_ble_eq_true rfl⟩) hK hT hS rfl hl.1 rfl (Nat.le_of_ble_eq_true rfl) dX10_layer_84 ⟨Nat.zero_le _, Nat.zero_le _⟩ (fun x16 u17 H locs hpu17 hT hS => ?_)
        obtain ⟨huu17, qu17⟩ := hpu17
        rw [huu17] at hT
        refine tb_if_eq (tgt := 105) hx hb dX10_layer_87 (by decide) (fun c18 => ?_) (fun c18 => ?_)
        · skip
          refine lv_iconst (v := (-1 : Int32)) hx hb dX10_layer_105 (by decide) ?_
          exact hret H locs ls 106 (-1 : Int32) G dX10_layer_106 ⟨rfl, trivial⟩ hT hS
        · skip
          refine lv_aload_n hx hb dX10_layer_90 rfl (lv_at hl 1 rfl) ?_
          refine gf_10_7 hx hb hts hin10 hown hK hT k0 hfl69 dX10_layer_91 (fun a19 ka19 fva19 => ?_)
          refine lv_aload hx hb dX10_layer_94 (lv_at hl 0 rfl) ?_
          refine lv_iload_n hx hb dX10_layer_96 rfl (lv_at hl 4 rfl) ?_
          refine lv_iconst (v := (4 : Int32)) hx hb dX10_layer_97 (by decide) ?_
          refine lv_isub hx hb dX10_layer_98 ?_
          refine lv_topi (fun x20 ex20 => ?_)
          have tx20 : x20.toInt = p3.toInt - (4 : Int32).toInt := by rw [ex20]; exact ti_sub (by have := i32b p3; have := i32b (4 : Int32); omega)
          refine tw_Vi (q := (RX2, TX2, 13)) (As := [.ref a7, .int x20]) (rest := []) ⟨hx, hb, hml, hown, hts⟩ (c_X2_turnedNumber l D cy κ G a19 ka19 a7 ka7 x20 (by omega)) (cwV 2 hts gX10_layer_X2_turnedNumber rfl rfl rfl (by decide +kernel) ⟨Nat.le_of_ble_eq_true rfl, Nat.le_of_ble_eq_true rfl⟩) hK hT hS ka19 (by decide) rfl rfl hl.1 rfl (Nat.le_of_ble_eq_true rfl) dX10_layer_99 ⟨Nat.zero_le _, Nat.zero_le _⟩ (fun x21 u22 H locs hpu22 hT hS => ?_)
          obtain ⟨huu22, qu22⟩ := hpu22
          rw [huu22] at hT
          refine lv_goto (tgt := 106) hx hb dX10_layer_102 (by decide) ?_
          exact hret H locs ls 106 x21 G dX10_layer_106 ⟨rfl, trivial⟩ hT hS
      · refine lv_tableIn (off := 31) (tgt := 56) hx hb dX10_layer_25 (by omega) (by omega) (by rw [c8]; rfl) (by decide) ?_
        refine lv_aload hx hb dX10_layer_56 (lv_at hl 0 rfl) ?_
        refine gf_5_0 hx hb hts hin5 hown hK hT ka7 hfl135 dX10_layer_58 (fun x23 kx23 fvx23 => ?_)
        exact hret H locs ls 61 x23 G dX10_layer_61 ⟨rfl, trivial⟩ hT hS
      · refine lv_tableIn (off := 37) (tgt := 62) hx hb dX10_layer_25 (by omega) (by omega) (by rw [c8]; rfl) (by decide) ?_
        refine lv_aload hx hb dX10_layer_62 (lv_at hl 0 rfl) ?_
        refine gf_5_1 hx hb hts hin5 hown hK hT ka7 hfl138 dX10_layer_64 (fun x24 kx24 fvx24 => ?_)
        exact hret H locs ls 67 x24 G dX10_layer_67 ⟨rfl, trivial⟩ hT hS
      · refine lv_tableIn (off := 43) (tgt := 68) hx hb dX10_layer_25 (by omega) (by omega) (by rw [c8]; rfl) (by decide) ?_
        refine lv_aload hx hb dX10_layer_68 (lv_at hl 0 rfl) ?_
        refine gf_5_2 hx hb hts hin5 hown hK hT ka7 hfl141 dX10_layer_70 (fun x25 kx25 fvx25 => ?_)
        exact hret H locs ls 73 x25 G dX10_layer_73 ⟨rfl, trivial⟩ hT hS
      · refine lv_tableIn (off := 49) (tgt := 74) hx hb dX10_layer_25 (by omega) (by omega) (by rw [c8]; rfl) (by decide) ?_
        refine lv_aload hx hb dX10_layer_74 (lv_at hl 0 rfl) ?_
        refine gf_5_3 hx hb hts hin5 hown hK hT ka7 hfl130 dX10_layer_76 (fun x26 kx26 fvx26 => ?_)
        exact hret H locs ls 79 x26 G dX10_layer_79 ⟨rfl, trivial⟩ hT hS
    · skip
      refine lv_iconst (v := (-1 : Int32)) hx hb dX10_layer_9 (by decide) ?_
      exact hret H locs ls 10 (-1 : Int32) G dX10_layer_10 ⟨rfl, trivial⟩ hT hS
  exact main s.heap [] hT va_S.rf

abbrev rmX10_table : Room := { frames := 3, cells := 0, slots := 0, locals := 75 }
set_option maxHeartbeats 4000000 in
set_option maxRecDepth 100000 in
theorem c_X10_table (l : Launch) (D : va_G) (cy : Nat → ClassId) (κ : Nat → Nat) (G : Gh) (p0 : Nat) (k0 : κ p0 = 11) (p1 : Int32) (p2 : Int32) (p3 : Int32) : Met l yX10_table wsX10_table rmX10_table (va_Pc [.ref p0, .int p1, .int p2, .int p3] (fun U => WW D cy κ G U)) (va_Ql (fun (r : Int64) (u : Gh) => u = G ∧ (True)) (fun u t => WW D cy κ u t) (AA κ)) 0 0 (AA κ) := by
  refine Met.twl (cc := cX10_table) (maxL := 4) (by decide) rfl (Nat.le_of_ble_eq_true rfl) ?_
  intro p e s m args below meth c Q hx hb hml hown hts hK hT hret ls hl
  have hl : lv_has ls 4 [(0, .ref p0), (1, .int p1), (2, .int p2), (3, .int p3)] := hl
  have hkl148 := hts (.constantLong RX10 148 (-9223372036854775808)) (by decide +kernel)
  have hlk148 : (-9223372036854775808 : Int64).toInt = -9223372036854775808 := rfl
  have hc0 : (0 : Int32).toInt = 0 := rfl
  have hc2 : (2 : Int32).toInt = 2 := rfl
  have hc5 : (5 : Int32).toInt = 5 := rfl
  have hfl69 := hts (.fieldLink RX10 69 "PlyPlates" "flat" "LPlyPlates$Flat;") (by decide +kernel)
  have hin10 : ∀ w ∈ u_ws RX10 TX10 11, w ∈ wsX10_table := by decide +kernel
  have hfl19 := hts (.fieldLink RX10 19 "PlyPlates" "plates" "[LPlyPlates$Plate;") (by decide +kernel)
  have hfl154 := hts (.fieldLink RX10 154 "PlyPlates$Flat" "sums" "[J") (by decide +kernel)
  have hin2 : ∀ w ∈ u_ws RX2 TX2 13, w ∈ wsX10_table := by decide +kernel
  have main : ∀ (H : Heap) (locs : List Loc), TW D cy κ G H → va_S (AA κ) s.heap H locs → W p l e rmX10_table s m args below meth c H locs 0 0 Q (F0 m 0 ls []) := by
    intro H locs hT hS
    refine lv_aload_n hx hb dX10_table_0 rfl (lv_at hl 0 rfl) ?_
    refine lv_iload_n hx hb dX10_table_1 rfl (lv_at hl 1 rfl) ?_
    refine tw_Vi (q := (RX10, TX10, 11)) (As := [.int p1]) (rest := []) ⟨hx, hb, hml, hown, hts⟩ (c_X10_isPlate l D cy κ G p0 k0 p1) (cwV 1 hts gX10_table_X10_isPlate rfl rfl rfl (by decide +kernel) ⟨Nat.le_of_ble_eq_true rfl, Nat.le_of_ble_eq_true rfl⟩) hK hT hS k0 (by decide) rfl rfl hl.1 rfl (Nat.le_of_ble_eq_true rfl) dX10_table_2 ⟨Nat.zero_le _, Nat.zero_le _⟩ (fun x1 u2 H locs hpu2 hT hS => ?_)
    obtain ⟨huu2, qu2⟩ := hpu2
    rw [huu2] at hT
    refine tb_if_eq (tgt := 26) hx hb dX10_table_5 (by decide) (fun c3 => ?_) (fun c3 => ?_)
    · skip
      refine lv_ldc2 hx hb hown hkl148 dX10_table_26 ?_
      exact hret H locs ls 29 (-9223372036854775808 : Int64) G dX10_table_29 ⟨rfl, trivial⟩ hT hS
    · skip
      refine lv_iload_n hx hb dX10_table_8 rfl (lv_at hl 2 rfl) ?_
      refine lv_iconst (v := (0 : Int32)) hx hb dX10_table_9 (by decide) ?_
      refine lv_iconst (v := (2 : Int32)) hx hb dX10_table_10 (by decide) ?_
      refine tw_Si (As := [.int p2, .int (0 : Int32), .int (2 : Int32)]) (rest := []) ⟨hx, hb, hml, hown, hts⟩ (c_X10_isWithin l D cy κ G p2 (0 : Int32) (2 : Int32)) (va_cwS 3 hts gX10_table_X10_isWithin rfl rfl rfl (by decide +kernel) ⟨Nat.le_of_ble_eq_true rfl, Nat.le_of_ble_eq_true rfl⟩) hK hT hS rfl hl.1 rfl (Nat.le_of_ble_eq_true rfl) dX10_table_11 ⟨Nat.zero_le _, Nat.zero_le _⟩ (fun x4 u5 H locs hpu5 hT hS => ?_)
      obtain ⟨huu5, qu5⟩ := hpu5
      rw [huu5] at hT
      refine tb_if_eq (tgt := 26) hx hb dX10_table_14 (by decide) (fun c6 => ?_) (fun c6 => ?_)
      · skip
        refine lv_ldc2 hx hb hown hkl148 dX10_table_26 ?_
        exact hret H locs ls 29 (-9223372036854775808 : Int64) G dX10_table_29 ⟨rfl, trivial⟩ hT hS
      · skip
        refine lv_iload_n hx hb dX10_table_17 rfl (lv_at hl 3 rfl) ?_
        refine lv_iconst (v := (0 : Int32)) hx hb dX10_table_18 (by decide) ?_
        refine lv_iconst (v := (5 : Int32)) hx hb dX10_table_19 (by decide) ?_
        refine tw_Si (As := [.int p3, .int (0 : Int32), .int (5 : Int32)]) (rest := []) ⟨hx, hb, hml, hown, hts⟩ (c_X10_isWithin l D cy κ G p3 (0 : Int32) (5 : Int32)) (va_cwS 3 hts gX10_table_X10_isWithin rfl rfl rfl (by decide +kernel) ⟨Nat.le_of_ble_eq_true rfl, Nat.le_of_ble_eq_true rfl⟩) hK hT hS rfl hl.1 rfl (Nat.le_of_ble_eq_true rfl) dX10_table_20 ⟨Nat.zero_le _, Nat.zero_le _⟩ (fun x7 u8 H locs hpu8 hT hS => ?_)
        obtain ⟨huu8, qu8⟩ := hpu8
        rw [huu8] at hT
        refine tb_if_ne (tgt := 30) hx hb dX10_table_23 (by decide) (fun c9 => ?_) (fun c9 => ?_)
        · skip
          refine lv_aload_n hx hb dX10_table_30 rfl (lv_at hl 0 rfl) ?_
          refine gf_10_7 hx hb hts hin10 hown hK hT k0 hfl69 dX10_table_31 (fun a10 ka10 fva10 => ?_)
          refine lv_aload_n hx hb dX10_table_34 rfl (lv_at hl 0 rfl) ?_
          refine gf_10_1 hx hb hts hin10 hown hK hT k0 hfl19 dX10_table_35 (fun a11 ka11 fva11 => ?_)
          refine lv_iload_n hx hb dX10_table_38 rfl (lv_at hl 1 rfl) ?_
          refine tw_ra (K := 30) (t := 3) (ty := .object RX7) (n := 4) (P := fun b => κ b = 8) hx hb hK hT ka11 (by decide) rfl rfl rfl rfl (by omega) rfl dX10_table_39 (fun a12 ka12 fva12 => ?_)
          refine lv_iload_n hx hb dX10_table_40 rfl (lv_at hl 2 rfl) ?_
          refine tw_Vv (q := (RX2, TX2, 13)) (As := [.ref a12, .int p2]) (rest := []) ⟨hx, hb, hml, hown, hts⟩ (c_X2_sum l D cy κ G a10 ka10 a12 ka12 p2) (cwV 2 hts gX10_table_X2_sum rfl rfl rfl (by decide +kernel) ⟨Nat.le_of_ble_eq_true rfl, Nat.le_of_ble_eq_true rfl⟩) hK hT hS ka10 (by decide) rfl rfl hl.1 rfl (Nat.le_of_ble_eq_true rfl) dX10_table_41 ⟨Nat.zero_le _, Nat.zero_le _⟩ (fun u14 H locs hpu14 hT hS => ?_)
          obtain ⟨huu14, qu14⟩ := hpu14
          rw [huu14] at hT
          refine lv_aload_n hx hb dX10_table_44 rfl (lv_at hl 0 rfl) ?_
          refine gf_10_7 hx hb hts hin10 hown hK hT k0 hfl69 dX10_table_45 (fun a15 ka15 fva15 => ?_)
          refine gf_2_4 hx hb hts hin2 hown hK hT ka15 hfl154 dX10_table_48 (fun a16 ka16 fva16 => ?_)
          refine lv_iload_n hx hb dX10_table_51 rfl (lv_at hl 3 rfl) ?_
          refine tw_la (K := 2006) (n := 6) (P := fun _ => True) hx hb hK hT ka16 (by decide) rfl rfl (by omega) rfl dX10_table_52 (fun y17 _ fvy17 => ?_)
          exact hret H locs ls 53 y17 G dX10_table_53 ⟨rfl, trivial⟩ hT hS
        · skip
          refine lv_ldc2 hx hb hown hkl148 dX10_table_26 ?_
          exact hret H locs ls 29 (-9223372036854775808 : Int64) G dX10_table_29 ⟨rfl, trivial⟩ hT hS
  exact main s.heap [] hT va_S.rf

abbrev rmX10_tied : Room := { frames := 3, cells := 0, slots := 0, locals := 75 }
set_option maxHeartbeats 4000000 in
set_option maxRecDepth 100000 in
theorem c_X10_tied (l : Launch) (D : va_G) (cy : Nat → ClassId) (κ : Nat → Nat) (G : Gh) (p0 : Nat) (k0 : κ p0 = 11) (p1 : Int32) : Met l yX10_tied wsX10_tied rmX10_tied (va_Pc [.ref p0, .int p1] (fun U => WW D cy κ G U)) (va_Qi (fun (r : Int32) (u : Gh) => u = G ∧ (True)) (fun u t => WW D cy κ u t) (AA κ)) 0 0 (AA κ) := by
  refine Met.twi (cc := cX10_tied) (maxL := 3) (by decide) rfl (Nat.le_of_ble_eq_true rfl) ?_
  intro p e s m args below meth c Q hx hb hml hown hts hK hT hret ls hl
  have hl : lv_has ls 3 [(0, .ref p0), (1, .int p1)] := hl
  have hfl69 := hts (.fieldLink RX10 69 "PlyPlates" "flat" "LPlyPlates$Flat;") (by decide +kernel)
  have hin10 : ∀ w ∈ u_ws RX10 TX10 11, w ∈ wsX10_tied := by decide +kernel
  have hfl19 := hts (.fieldLink RX10 19 "PlyPlates" "plates" "[LPlyPlates$Plate;") (by decide +kernel)
  have hc0 : (0 : Int32).toInt = 0 := rfl
  have hfl154 := hts (.fieldLink RX10 154 "PlyPlates$Flat" "sums" "[J") (by decide +kernel)
  have hin2 : ∀ w ∈ u_ws RX2 TX2 13, w ∈ wsX10_tied := by decide +kernel
  have hc4 : (4 : Int32).toInt = 4 := rfl
  have hlc0 : (0 : Int64).toInt = 0 := rfl
  have hc5 : (5 : Int32).toInt = 5 := rfl
  have hc1 : (1 : Int32).toInt = 1 := rfl
  have hc2 : (2 : Int32).toInt = 2 := rfl
  have hc3 : (3 : Int32).toInt = 3 := rfl
  have hcm1 : (-1 : Int32).toInt = -1 := rfl
  have main : ∀ (H : Heap) (locs : List Loc), TW D cy κ G H → va_S (AA κ) s.heap H locs → W p l e rmX10_tied s m args below meth c H locs 0 0 Q (F0 m 0 ls []) := by
    intro H locs hT hS
    refine lv_aload_n hx hb dX10_tied_0 rfl (lv_at hl 0 rfl) ?_
    refine lv_iload_n hx hb dX10_tied_1 rfl (lv_at hl 1 rfl) ?_
    refine tw_Vi (q := (RX10, TX10, 11)) (As := [.int p1]) (rest := []) ⟨hx, hb, hml, hown, hts⟩ (c_X10_isPlate l D cy κ G p0 k0 p1) (cwV 1 hts gX10_tied_X10_isPlate rfl rfl rfl (by decide +kernel) ⟨Nat.le_of_ble_eq_true rfl, Nat.le_of_ble_eq_true rfl⟩) hK hT hS k0 (by decide) rfl rfl hl.1 rfl (Nat.le_of_ble_eq_true rfl) dX10_tied_2 ⟨Nat.zero_le _, Nat.zero_le _⟩ (fun x1 u2 H locs hpu2 hT hS => ?_)
    obtain ⟨huu2, qu2⟩ := hpu2
    rw [huu2] at hT
    refine tb_if_ne (tgt := 10) hx hb dX10_tied_5 (by decide) (fun c3 => ?_) (fun c3 => ?_)
    · skip
      refine lv_aload_n hx hb dX10_tied_10 rfl (lv_at hl 0 rfl) ?_
      refine gf_10_7 hx hb hts hin10 hown hK hT k0 hfl69 dX10_tied_11 (fun a4 ka4 fva4 => ?_)
      refine lv_aload_n hx hb dX10_tied_14 rfl (lv_at hl 0 rfl) ?_
      refine gf_10_1 hx hb hts hin10 hown hK hT k0 hfl19 dX10_tied_15 (fun a5 ka5 fva5 => ?_)
      refine lv_iload_n hx hb dX10_tied_18 rfl (lv_at hl 1 rfl) ?_
      refine tw_ra (K := 30) (t := 3) (ty := .object RX7) (n := 4) (P := fun b => κ b = 8) hx hb hK hT ka5 (by decide) rfl rfl rfl rfl (by omega) rfl dX10_tied_19 (fun a6 ka6 fva6 => ?_)
      refine lv_iconst (v := (0 : Int32)) hx hb dX10_tied_20 (by decide) ?_
      refine tw_Vv (q := (RX2, TX2, 13)) (As := [.ref a6, .int (0 : Int32)]) (rest := []) ⟨hx, hb, hml, hown, hts⟩ (c_X2_sum l D cy κ G a4 ka4 a6 ka6 (0 : Int32)) (cwV 2 hts gX10_tied_X2_sum rfl rfl rfl (by decide +kernel) ⟨Nat.le_of_ble_eq_true rfl, Nat.le_of_ble_eq_true rfl⟩) hK hT hS ka4 (by decide) rfl rfl hl.1 rfl (Nat.le_of_ble_eq_true rfl) dX10_tied_21 ⟨Nat.zero_le _, Nat.zero_le _⟩ (fun u8 H locs hpu8 hT hS => ?_)
      obtain ⟨huu8, qu8⟩ := hpu8
      rw [huu8] at hT
      refine lv_aload_n hx hb dX10_tied_24 rfl (lv_at hl 0 rfl) ?_
      refine gf_10_7 hx hb hts hin10 hown hK hT k0 hfl69 dX10_tied_25 (fun a9 ka9 fva9 => ?_)
      refine gf_2_4 hx hb hts hin2 hown hK hT ka9 hfl154 dX10_tied_28 (fun a10 ka10 fva10 => ?_)
      refine lv_iconst (v := (4 : Int32)) hx hb dX10_tied_31 (by decide) ?_
      refine tw_la (K := 2006) (n := 6) (P := fun _ => True) hx hb hK hT ka10 (by decide) rfl rfl (by omega) rfl dX10_tied_32 (fun y11 _ fvy11 => ?_)
      refine lv_lconst (v := 0) hx hb dX10_tied_33 (by decide) ?_
      refine tb_lcmp2 hx hb dX10_tied_34 (fun x12 tx12 ux12 => ?_)
      have J43 : ∀ (H : Heap) (locs : List Loc) (ls : Array Slot) (x13 : Int32), (TW D cy κ G H) → (va_S (AA κ) s.heap H locs) → (lv_has ls 3 [(0, .ref p0), (1, .int p1)]) → (0 ≤ x13.toInt ∧ x13.toInt ≤ 1) → W p l e rmX10_tied s m args below meth c H locs 0 0 Q (F0 m 43 ls [.int x13]) := by
        intro H locs ls x13 hT hS hl fJ43_0
        refine lv_iconst (v := (0 : Int32)) hx hb dX10_tied_43 (by decide) ?_
        refine tw_Si (As := [.int x13, .int (0 : Int32)]) (rest := []) ⟨hx, hb, hml, hown, hts⟩ (c_X10_bitIf l D cy κ G x13 (0 : Int32)) (va_cwS 2 hts gX10_tied_X10_bitIf rfl rfl rfl (by decide +kernel) ⟨Nat.le_of_ble_eq_true rfl, Nat.le_of_ble_eq_true rfl⟩) hK hT hS rfl hl.1 rfl (Nat.le_of_ble_eq_true rfl) dX10_tied_44 ⟨Nat.zero_le _, Nat.zero_le _⟩ (fun x14 u15 H locs hpu15 hT hS => ?_)
        obtain ⟨huu15, qu15⟩ := hpu15
        rw [huu15] at hT
        refine lv_aload_n hx hb dX10_tied_47 rfl (lv_at hl 0 rfl) ?_
        refine gf_10_7 hx hb hts hin10 hown hK hT k0 hfl69 dX10_tied_48 (fun a16 ka16 fva16 => ?_)
        refine gf_2_4 hx hb hts hin2 hown hK hT ka16 hfl154 dX10_tied_51 (fun a17 ka17 fva17 => ?_)
        refine lv_iconst (v := (5 : Int32)) hx hb dX10_tied_54 (by decide) ?_
        refine tw_la (K := 2006) (n := 6) (P := fun _ => True) hx hb hK hT ka17 (by decide) rfl rfl (by omega) rfl dX10_tied_55 (fun y18 _ fvy18 => ?_)
        refine lv_lconst (v := 0) hx hb dX10_tied_56 (by decide) ?_
        refine tb_lcmp2 hx hb dX10_tied_57 (fun x19 tx19 ux19 => ?_)
        have J66 : ∀ (H : Heap) (locs : List Loc) (ls : Array Slot) (x20 : Int32), (TW D cy κ G H) → (va_S (AA κ) s.heap H locs) → (lv_has ls 3 [(0, .ref p0), (1, .int p1)]) → (0 ≤ x20.toInt ∧ x20.toInt ≤ 1) → W p l e rmX10_tied s m args below meth c H locs 0 0 Q (F0 m 66 ls [.int x20, .int x14]) := by
          intro H locs ls x20 hT hS hl fJ66_0
          refine lv_iconst (v := (1 : Int32)) hx hb dX10_tied_66 (by decide) ?_
          refine tw_Si (As := [.int x20, .int (1 : Int32)]) (rest := [.int x14]) ⟨hx, hb, hml, hown, hts⟩ (c_X10_bitIf l D cy κ G x20 (1 : Int32)) (va_cwS 2 hts gX10_tied_X10_bitIf rfl rfl rfl (by decide +kernel) ⟨Nat.le_of_ble_eq_true rfl, Nat.le_of_ble_eq_true rfl⟩) hK hT hS rfl hl.1 rfl (Nat.le_of_ble_eq_true rfl) dX10_tied_67 ⟨Nat.zero_le _, Nat.zero_le _⟩ (fun x21 u22 H locs hpu22 hT hS => ?_)
          obtain ⟨huu22, qu22⟩ := hpu22
          rw [huu22] at hT
          refine lv_ior hx hb dX10_tied_70 ?_
          refine lv_topi (fun x23 ex23 => ?_)
          refine lv_istore_n (lv' := [(2, .int x23), (0, .ref p0), (1, .int p1)]) hx hb dX10_tied_71 rfl hl (by decide) rfl (fun ls hl => ?_)
          refine lv_aload_n hx hb dX10_tied_72 rfl (lv_at hl 1 rfl) ?_
          refine gf_10_7 hx hb hts hin10 hown hK hT k0 hfl69 dX10_tied_73 (fun a24 ka24 fva24 => ?_)
          refine lv_aload_n hx hb dX10_tied_76 rfl (lv_at hl 1 rfl) ?_
          refine gf_10_1 hx hb hts hin10 hown hK hT k0 hfl19 dX10_tied_77 (fun a25 ka25 fva25 => ?_)
          refine lv_iload_n hx hb dX10_tied_80 rfl (lv_at hl 2 rfl) ?_
          refine tw_ra (K := 30) (t := 3) (ty := .object RX7) (n := 4) (P := fun b => κ b = 8) hx hb hK hT ka25 (by decide) rfl rfl rfl rfl (by omega) rfl dX10_tied_81 (fun a26 ka26 fva26 => ?_)
          refine lv_iconst (v := (2 : Int32)) hx hb dX10_tied_82 (by decide) ?_
          refine tw_Vv (q := (RX2, TX2, 13)) (As := [.ref a26, .int (2 : Int32)]) (rest := []) ⟨hx, hb, hml, hown, hts⟩ (c_X2_sum l D cy κ G a24 ka24 a26 ka26 (2 : Int32)) (cwV 2 hts gX10_tied_X2_sum rfl rfl rfl (by decide +kernel) ⟨Nat.le_of_ble_eq_true rfl, Nat.le_of_ble_eq_true rfl⟩) hK hT hS ka24 (by decide) rfl rfl hl.1 rfl (Nat.le_of_ble_eq_true rfl) dX10_tied_83 ⟨Nat.zero_le _, Nat.zero_le _⟩ (fun u28 H locs hpu28 hT hS => ?_)
          obtain ⟨huu28, qu28⟩ := hpu28
          rw [huu28] at hT
          refine lv_iload_n hx hb dX10_tied_86 rfl (lv_at hl 0 rfl) ?_
          refine lv_aload_n hx hb dX10_tied_87 rfl (lv_at hl 1 rfl) ?_
          refine gf_10_7 hx hb hts hin10 hown hK hT k0 hfl69 dX10_tied_88 (fun a29 ka29 fva29 => ?_)
          refine gf_2_4 hx hb hts hin2 hown hK hT ka29 hfl154 dX10_tied_91 (fun a30 ka30 fva30 => ?_)
          refine lv_iconst (v := (4 : Int32)) hx hb dX10_tied_94 (by decide) ?_
          refine tw_la (K := 2006) (n := 6) (P := fun _ => True) hx hb hK hT ka30 (by decide) rfl rfl (by omega) rfl dX10_tied_95 (fun y31 _ fvy31 => ?_)
          refine lv_lconst (v := 0) hx hb dX10_tied_96 (by decide) ?_
          refine tb_lcmp2 hx hb dX10_tied_97 (fun x32 tx32 ux32 => ?_)
          have J106 : ∀ (H : Heap) (locs : List Loc) (ls : Array Slot) (x33 : Int32), (TW D cy κ G H) → (va_S (AA κ) s.heap H locs) → (lv_has ls 3 [(2, .int x23), (0, .ref p0), (1, .int p1)]) → (0 ≤ x33.toInt ∧ x33.toInt ≤ 1) → W p l e rmX10_tied s m args below meth c H locs 0 0 Q (F0 m 106 ls [.int x33, .int x23]) := by
            intro H locs ls x33 hT hS hl fJ106_0
            refine lv_iconst (v := (2 : Int32)) hx hb dX10_tied_106 (by decide) ?_
            refine tw_Si (As := [.int x33, .int (2 : Int32)]) (rest := [.int x23]) ⟨hx, hb, hml, hown, hts⟩ (c_X10_bitIf l D cy κ G x33 (2 : Int32)) (va_cwS 2 hts gX10_tied_X10_bitIf rfl rfl rfl (by decide +kernel) ⟨Nat.le_of_ble_eq_true rfl, Nat.le_of_ble_eq_true rfl⟩) hK hT hS rfl hl.1 rfl (Nat.le_of_ble_eq_true rfl) dX10_tied_107 ⟨Nat.zero_le _, Nat.zero_le _⟩ (fun x34 u35 H locs hpu35 hT hS => ?_)
            obtain ⟨huu35, qu35⟩ := hpu35
            rw [huu35] at hT
            refine lv_aload_n hx hb dX10_tied_110 rfl (lv_at hl 1 rfl) ?_
            refine gf_10_7 hx hb hts hin10 hown hK hT k0 hfl69 dX10_tied_111 (fun a36 ka36 fva36 => ?_)
            refine gf_2_4 hx hb hts hin2 hown hK hT ka36 hfl154 dX10_tied_114 (fun a37 ka37 fva37 => ?_)
            refine lv_iconst (v := (5 : Int32)) hx hb dX10_tied_117 (by decide) ?_
            refine tw_la (K := 2006) (n := 6) (P := fun _ => True) hx hb hK hT ka37 (by decide) rfl rfl (by omega) rfl dX10_tied_118 (fun y38 _ fvy38 => ?_)
            refine lv_lconst (v := 0) hx hb dX10_tied_119 (by decide) ?_
            refine tb_lcmp2 hx hb dX10_tied_120 (fun x39 tx39 ux39 => ?_)
            have J129 : ∀ (H : Heap) (locs : List Loc) (ls : Array Slot) (x40 : Int32), (TW D cy κ G H) → (va_S (AA κ) s.heap H locs) → (lv_has ls 3 [(2, .int x23), (0, .ref p0), (1, .int p1)]) → (0 ≤ x40.toInt ∧ x40.toInt ≤ 1) → W p l e rmX10_tied s m args below meth c H locs 0 0 Q (F0 m 129 ls [.int x40, .int x34, .int x23]) := by
              intro H locs ls x40 hT hS hl fJ129_0
              refine lv_iconst (v := (3 : Int32)) hx hb dX10_tied_129 (by decide) ?_
              refine tw_Si (As := [.int x40, .int (3 : Int32)]) (rest := [.int x34, .int x23]) ⟨hx, hb, hml, hown, hts⟩ (c_X10_bitIf l D cy κ G x40 (3 : Int32)) (va_cwS 2 hts gX10_tied_X10_bitIf rfl rfl rfl (by decide +kernel) ⟨Nat.le_of_ble_eq_true rfl, Nat.le_of_ble_eq_true rfl⟩) hK hT hS rfl hl.1 rfl (Nat.le_of_ble_eq_true rfl) dX10_tied_130 ⟨Nat.zero_le _, Nat.zero_le _⟩ (fun x41 u42 H locs hpu42 hT hS => ?_)
              obtain ⟨huu42, qu42⟩ := hpu42
              rw [huu42] at hT
              refine lv_ior hx hb dX10_tied_133 ?_
              refine lv_topi (fun x43 ex43 => ?_)
              refine lv_ior hx hb dX10_tied_134 ?_
              refine lv_topi (fun x44 ex44 => ?_)
              refine lv_istore_n (lv' := [(2, .int x44), (0, .ref p0), (1, .int p1)]) hx hb dX10_tied_135 rfl hl (by decide) rfl (fun ls hl => ?_)
              refine lv_aload_n hx hb dX10_tied_136 rfl (lv_at hl 1 rfl) ?_
              refine gf_10_7 hx hb hts hin10 hown hK hT k0 hfl69 dX10_tied_137 (fun a45 ka45 fva45 => ?_)
              refine lv_aload_n hx hb dX10_tied_140 rfl (lv_at hl 1 rfl) ?_
              refine gf_10_1 hx hb hts hin10 hown hK hT k0 hfl19 dX10_tied_141 (fun a46 ka46 fva46 => ?_)
              refine lv_iload_n hx hb dX10_tied_144 rfl (lv_at hl 2 rfl) ?_
              refine tw_ra (K := 30) (t := 3) (ty := .object RX7) (n := 4) (P := fun b => κ b = 8) hx hb hK hT ka46 (by decide) rfl rfl rfl rfl (by omega) rfl dX10_tied_145 (fun a47 ka47 fva47 => ?_)
              refine lv_iconst (v := (1 : Int32)) hx hb dX10_tied_146 (by decide) ?_
              refine tw_Vv (q := (RX2, TX2, 13)) (As := [.ref a47, .int (1 : Int32)]) (rest := []) ⟨hx, hb, hml, hown, hts⟩ (c_X2_sum l D cy κ G a45 ka45 a47 ka47 (1 : Int32)) (cwV 2 hts gX10_tied_X2_sum rfl rfl rfl (by decide +kernel) ⟨Nat.le_of_ble_eq_true rfl, Nat.le_of_ble_eq_true rfl⟩) hK hT hS ka45 (by decide) rfl rfl hl.1 rfl (Nat.le_of_ble_eq_true rfl) dX10_tied_147 ⟨Nat.zero_le _, Nat.zero_le _⟩ (fun u49 H locs hpu49 hT hS => ?_)
              obtain ⟨huu49, qu49⟩ := hpu49
              rw [huu49] at hT
              refine lv_iload_n hx hb dX10_tied_150 rfl (lv_at hl 0 rfl) ?_
              refine lv_aload_n hx hb dX10_tied_151 rfl (lv_at hl 1 rfl) ?_
              refine gf_10_7 hx hb hts hin10 hown hK hT k0 hfl69 dX10_tied_152 (fun a50 ka50 fva50 => ?_)
              refine tw_Vi (q := (RX2, TX2, 13)) (As := []) (rest := [.int x44]) ⟨hx, hb, hml, hown, hts⟩ (c_X2_isAnySumLeft l D cy κ G a50 ka50) (cwV 0 hts gX10_tied_X2_isAnySumLeft rfl rfl rfl (by decide +kernel) ⟨Nat.le_of_ble_eq_true rfl, Nat.le_of_ble_eq_true rfl⟩) hK hT hS ka50 (by decide) rfl rfl hl.1 rfl (Nat.le_of_ble_eq_true rfl) dX10_tied_155 ⟨Nat.zero_le _, Nat.zero_le _⟩ (fun x51 u52 H locs hpu52 hT hS => ?_)
              obtain ⟨huu52, qu52⟩ := hpu52
              rw [huu52] at hT
              refine lv_iconst (v := (4 : Int32)) hx hb dX10_tied_158 (by decide) ?_
              refine tw_Si (As := [.int x51, .int (4 : Int32)]) (rest := [.int x44]) ⟨hx, hb, hml, hown, hts⟩ (c_X10_bitIf l D cy κ G x51 (4 : Int32)) (va_cwS 2 hts gX10_tied_X10_bitIf rfl rfl rfl (by decide +kernel) ⟨Nat.le_of_ble_eq_true rfl, Nat.le_of_ble_eq_true rfl⟩) hK hT hS rfl hl.1 rfl (Nat.le_of_ble_eq_true rfl) dX10_tied_159 ⟨Nat.zero_le _, Nat.zero_le _⟩ (fun x53 u54 H locs hpu54 hT hS => ?_)
              obtain ⟨huu54, qu54⟩ := hpu54
              rw [huu54] at hT
              refine lv_ior hx hb dX10_tied_162 ?_
              refine lv_topi (fun x55 ex55 => ?_)
              exact hret H locs ls 163 x55 G dX10_tied_163 ⟨rfl, trivial⟩ hT hS
            refine tb_if_eq (tgt := 128) hx hb dX10_tied_121 (by decide) (fun c56 => ?_) (fun c56 => ?_)
            · skip
              refine lv_iconst (v := (0 : Int32)) hx hb dX10_tied_128 (by decide) ?_
              exact J129 H locs ls (0 : Int32) hT hS (lv_sub hl [0, 1, 2] rfl) (by omega)
            · skip
              refine lv_iconst (v := (1 : Int32)) hx hb dX10_tied_124 (by decide) ?_
              refine lv_goto (tgt := 129) hx hb dX10_tied_125 (by decide) ?_
              exact J129 H locs ls (1 : Int32) hT hS (lv_sub hl [0, 1, 2] rfl) (by omega)
          refine tb_if_eq (tgt := 105) hx hb dX10_tied_98 (by decide) (fun c57 => ?_) (fun c57 => ?_)
          · skip
            refine lv_iconst (v := (0 : Int32)) hx hb dX10_tied_105 (by decide) ?_
            exact J106 H locs ls (0 : Int32) hT hS (lv_sub hl [0, 1, 2] rfl) (by omega)
          · skip
            refine lv_iconst (v := (1 : Int32)) hx hb dX10_tied_101 (by decide) ?_
            refine lv_goto (tgt := 106) hx hb dX10_tied_102 (by decide) ?_
            exact J106 H locs ls (1 : Int32) hT hS (lv_sub hl [0, 1, 2] rfl) (by omega)
        refine tb_if_eq (tgt := 65) hx hb dX10_tied_58 (by decide) (fun c58 => ?_) (fun c58 => ?_)
        · skip
          refine lv_iconst (v := (0 : Int32)) hx hb dX10_tied_65 (by decide) ?_
          exact J66 H locs ls (0 : Int32) hT hS (lv_sub hl [0, 1] rfl) (by omega)
        · skip
          refine lv_iconst (v := (1 : Int32)) hx hb dX10_tied_61 (by decide) ?_
          refine lv_goto (tgt := 66) hx hb dX10_tied_62 (by decide) ?_
          exact J66 H locs ls (1 : Int32) hT hS (lv_sub hl [0, 1] rfl) (by omega)
      refine tb_if_eq (tgt := 42) hx hb dX10_tied_35 (by decide) (fun c59 => ?_) (fun c59 => ?_)
      · skip
        refine lv_iconst (v := (0 : Int32)) hx hb dX10_tied_42 (by decide) ?_
        exact J43 H locs ls (0 : Int32) hT hS (lv_sub hl [0, 1] rfl) (by omega)
      · skip
        refine lv_iconst (v := (1 : Int32)) hx hb dX10_tied_38 (by decide) ?_
        refine lv_goto (tgt := 43) hx hb dX10_tied_39 (by decide) ?_
        exact J43 H locs ls (1 : Int32) hT hS (lv_sub hl [0, 1] rfl) (by omega)
    · skip
      refine lv_iconst (v := (-1 : Int32)) hx hb dX10_tied_8 (by decide) ?_
      exact hret H locs ls 9 (-1 : Int32) G dX10_tied_9 ⟨rfl, trivial⟩ hT hS
  exact main s.heap [] hT va_S.rf

abbrev rmX10_even : Room := { frames := 2, cells := 0, slots := 0, locals := 43 }
set_option maxHeartbeats 4000000 in
set_option maxRecDepth 100000 in
theorem c_X10_even (l : Launch) (D : va_G) (cy : Nat → ClassId) (κ : Nat → Nat) (G : Gh) (p0 : Nat) (k0 : κ p0 = 11) (p1 : Int32) : Met l yX10_even wsX10_even rmX10_even (va_Pc [.ref p0, .int p1] (fun U => WW D cy κ G U)) (va_Qi (fun (r : Int32) (u : Gh) => u = G ∧ (True)) (fun u t => WW D cy κ u t) (AA κ)) 0 0 (AA κ) := by
  refine Met.twi (cc := cX10_even) (maxL := 2) (by decide) rfl (Nat.le_of_ble_eq_true rfl) ?_
  intro p e s m args below meth c Q hx hb hml hown hts hK hT hret ls hl
  have hl : lv_has ls 2 [(0, .ref p0), (1, .int p1)] := hl
  have hfl19 := hts (.fieldLink RX10 19 "PlyPlates" "plates" "[LPlyPlates$Plate;") (by decide +kernel)
  have hin10 : ∀ w ∈ u_ws RX10 TX10 11, w ∈ wsX10_even := by decide +kernel
  have hc0 : (0 : Int32).toInt = 0 := rfl
  have hc1 : (1 : Int32).toInt = 1 := rfl
  have hcm1 : (-1 : Int32).toInt = -1 := rfl
  have main : ∀ (H : Heap) (locs : List Loc), TW D cy κ G H → va_S (AA κ) s.heap H locs → W p l e rmX10_even s m args below meth c H locs 0 0 Q (F0 m 0 ls []) := by
    intro H locs hT hS
    refine lv_aload_n hx hb dX10_even_0 rfl (lv_at hl 0 rfl) ?_
    refine lv_iload_n hx hb dX10_even_1 rfl (lv_at hl 1 rfl) ?_
    refine tw_Vi (q := (RX10, TX10, 11)) (As := [.int p1]) (rest := []) ⟨hx, hb, hml, hown, hts⟩ (c_X10_isPlate l D cy κ G p0 k0 p1) (cwV 1 hts gX10_even_X10_isPlate rfl rfl rfl (by decide +kernel) ⟨Nat.le_of_ble_eq_true rfl, Nat.le_of_ble_eq_true rfl⟩) hK hT hS k0 (by decide) rfl rfl hl.1 rfl (Nat.le_of_ble_eq_true rfl) dX10_even_2 ⟨Nat.zero_le _, Nat.zero_le _⟩ (fun x1 u2 H locs hpu2 hT hS => ?_)
    obtain ⟨huu2, qu2⟩ := hpu2
    rw [huu2] at hT
    refine tb_if_ne (tgt := 10) hx hb dX10_even_5 (by decide) (fun c3 => ?_) (fun c3 => ?_)
    · skip
      refine lv_aload_n hx hb dX10_even_10 rfl (lv_at hl 0 rfl) ?_
      refine gf_10_1 hx hb hts hin10 hown hK hT k0 hfl19 dX10_even_11 (fun a4 ka4 fva4 => ?_)
      refine lv_iload_n hx hb dX10_even_14 rfl (lv_at hl 1 rfl) ?_
      refine tw_ra (K := 30) (t := 3) (ty := .object RX7) (n := 4) (P := fun b => κ b = 8) hx hb hK hT ka4 (by decide) rfl rfl rfl rfl (by omega) rfl dX10_even_15 (fun a5 ka5 fva5 => ?_)
      refine tw_Vi (q := (RX7, TX7, 2)) (As := []) (rest := []) ⟨hx, hb, hml, hown, hts⟩ (c_X7_isEven l D cy κ G a5 ka5) (cwV 0 hts gX10_even_X7_isEven rfl rfl rfl (by decide +kernel) ⟨Nat.le_of_ble_eq_true rfl, Nat.le_of_ble_eq_true rfl⟩) hK hT hS ka5 (by decide) rfl rfl hl.1 rfl (Nat.le_of_ble_eq_true rfl) dX10_even_16 ⟨Nat.zero_le _, Nat.zero_le _⟩ (fun x6 u7 H locs hpu7 hT hS => ?_)
      obtain ⟨huu7, qu7⟩ := hpu7
      rw [huu7] at hT
      refine tb_if_eq (tgt := 26) hx hb dX10_even_19 (by decide) (fun c8 => ?_) (fun c8 => ?_)
      · skip
        refine lv_iconst (v := (0 : Int32)) hx hb dX10_even_26 (by decide) ?_
        exact hret H locs ls 27 (0 : Int32) G dX10_even_27 ⟨rfl, trivial⟩ hT hS
      · skip
        refine lv_iconst (v := (1 : Int32)) hx hb dX10_even_22 (by decide) ?_
        refine lv_goto (tgt := 27) hx hb dX10_even_23 (by decide) ?_
        exact hret H locs ls 27 (1 : Int32) G dX10_even_27 ⟨rfl, trivial⟩ hT hS
    · skip
      refine lv_iconst (v := (-1 : Int32)) hx hb dX10_even_8 (by decide) ?_
      exact hret H locs ls 9 (-1 : Int32) G dX10_even_9 ⟨rfl, trivial⟩ hT hS
  exact main s.heap [] hT va_S.rf

abbrev rmX10_determinant : Room := { frames := 4, cells := 0, slots := 0, locals := 108 }
set_option maxHeartbeats 4000000 in
set_option maxRecDepth 100000 in
theorem c_X10_determinant (l : Launch) (D : va_G) (cy : Nat → ClassId) (κ : Nat → Nat) (G : Gh) (p0 : Nat) (k0 : κ p0 = 11) (p1 : Int32) : Met l yX10_determinant wsX10_determinant rmX10_determinant (va_Pc [.ref p0, .int p1] (fun U => WW D cy κ G U)) (va_Ql (fun (r : Int64) (u : Gh) => u = G ∧ (True)) (fun u t => WW D cy κ u t) (AA κ)) 0 0 (AA κ) := by
  refine Met.twl (cc := cX10_determinant) (maxL := 2) (by decide) rfl (Nat.le_of_ble_eq_true rfl) ?_
  intro p e s m args below meth c Q hx hb hml hown hts hK hT hret ls hl
  have hl : lv_has ls 2 [(0, .ref p0), (1, .int p1)] := hl
  have hfl69 := hts (.fieldLink RX10 69 "PlyPlates" "flat" "LPlyPlates$Flat;") (by decide +kernel)
  have hin10 : ∀ w ∈ u_ws RX10 TX10 11, w ∈ wsX10_determinant := by decide +kernel
  have hfl19 := hts (.fieldLink RX10 19 "PlyPlates" "plates" "[LPlyPlates$Plate;") (by decide +kernel)
  have hfl172 := hts (.fieldLink RX10 172 "PlyPlates$Flat" "below" "J") (by decide +kernel)
  have hin2 : ∀ w ∈ u_ws RX2 TX2 13, w ∈ wsX10_determinant := by decide +kernel
  have hkl148 := hts (.constantLong RX10 148 (-9223372036854775808)) (by decide +kernel)
  have hlk148 : (-9223372036854775808 : Int64).toInt = -9223372036854775808 := rfl
  have main : ∀ (H : Heap) (locs : List Loc), TW D cy κ G H → va_S (AA κ) s.heap H locs → W p l e rmX10_determinant s m args below meth c H locs 0 0 Q (F0 m 0 ls []) := by
    intro H locs hT hS
    refine lv_aload_n hx hb dX10_determinant_0 rfl (lv_at hl 0 rfl) ?_
    refine lv_iload_n hx hb dX10_determinant_1 rfl (lv_at hl 1 rfl) ?_
    refine tw_Vi (q := (RX10, TX10, 11)) (As := [.int p1]) (rest := []) ⟨hx, hb, hml, hown, hts⟩ (c_X10_isPlate l D cy κ G p0 k0 p1) (cwV 1 hts gX10_determinant_X10_isPlate rfl rfl rfl (by decide +kernel) ⟨Nat.le_of_ble_eq_true rfl, Nat.le_of_ble_eq_true rfl⟩) hK hT hS k0 (by decide) rfl rfl hl.1 rfl (Nat.le_of_ble_eq_true rfl) dX10_determinant_2 ⟨Nat.zero_le _, Nat.zero_le _⟩ (fun x1 u2 H locs hpu2 hT hS => ?_)
    obtain ⟨huu2, qu2⟩ := hpu2
    rw [huu2] at hT
    refine tb_if_ne (tgt := 12) hx hb dX10_determinant_5 (by decide) (fun c3 => ?_) (fun c3 => ?_)
    · skip
      refine lv_aload_n hx hb dX10_determinant_12 rfl (lv_at hl 0 rfl) ?_
      refine gf_10_7 hx hb hts hin10 hown hK hT k0 hfl69 dX10_determinant_13 (fun a4 ka4 fva4 => ?_)
      refine lv_aload_n hx hb dX10_determinant_16 rfl (lv_at hl 0 rfl) ?_
      refine gf_10_1 hx hb hts hin10 hown hK hT k0 hfl19 dX10_determinant_17 (fun a5 ka5 fva5 => ?_)
      refine lv_iload_n hx hb dX10_determinant_20 rfl (lv_at hl 1 rfl) ?_
      refine tw_ra (K := 30) (t := 3) (ty := .object RX7) (n := 4) (P := fun b => κ b = 8) hx hb hK hT ka5 (by decide) rfl rfl rfl rfl (by omega) rfl dX10_determinant_21 (fun a6 ka6 fva6 => ?_)
      refine tw_Vv (q := (RX2, TX2, 13)) (As := [.ref a6]) (rest := []) ⟨hx, hb, hml, hown, hts⟩ (c_X2_prepare l D cy κ G a4 ka4 a6 ka6) (cwV 1 hts gX10_determinant_X2_prepare rfl rfl rfl (by decide +kernel) ⟨Nat.le_of_ble_eq_true rfl, Nat.le_of_ble_eq_true rfl⟩) hK hT hS ka4 (by decide) rfl rfl hl.1 rfl (Nat.le_of_ble_eq_true rfl) dX10_determinant_22 ⟨Nat.zero_le _, Nat.zero_le _⟩ (fun u8 H locs hpu8 hT hS => ?_)
      obtain ⟨huu8, qu8⟩ := hpu8
      rw [huu8] at hT
      refine lv_aload_n hx hb dX10_determinant_25 rfl (lv_at hl 0 rfl) ?_
      refine gf_10_7 hx hb hts hin10 hown hK hT k0 hfl69 dX10_determinant_26 (fun a9 ka9 fva9 => ?_)
      refine gf_2_6 hx hb hts hin2 hown hK hT ka9 hfl172 dX10_determinant_29 (fun y10 ky10 fvy10 => ?_)
      exact hret H locs ls 32 y10 G dX10_determinant_32 ⟨rfl, trivial⟩ hT hS
    · skip
      refine lv_ldc2 hx hb hown hkl148 dX10_determinant_8 ?_
      exact hret H locs ls 11 (-9223372036854775808 : Int64) G dX10_determinant_11 ⟨rfl, trivial⟩ hT hS
  exact main s.heap [] hT va_S.rf

abbrev rmX10_stretch : Room := { frames := 4, cells := 0, slots := 0, locals := 108 }
set_option maxHeartbeats 4000000 in
set_option maxRecDepth 100000 in
theorem c_X10_stretch (l : Launch) (D : va_G) (cy : Nat → ClassId) (κ : Nat → Nat) (G : Gh) (p0 : Nat) (k0 : κ p0 = 11) (p1 : Int32) (p2 : Int32) (p3 : Int32) (p4 : Int32) (p5 : Int32) (p6 : Int32) : Met l yX10_stretch wsX10_stretch rmX10_stretch (va_Pc [.ref p0, .int p1, .int p2, .int p3, .int p4, .int p5, .int p6] (fun U => WW D cy κ G U)) (va_Ql (fun (r : Int64) (u : Gh) => u = G ∧ (True)) (fun u t => WW D cy κ u t) (AA κ)) 0 0 (AA κ) := by
  refine Met.twl (cc := cX10_stretch) (maxL := 7) (by decide) rfl (Nat.le_of_ble_eq_true rfl) ?_
  intro p e s m args below meth c Q hx hb hml hown hts hK hT hret ls hl
  have hl : lv_has ls 7 [(0, .ref p0), (1, .int p1), (2, .int p2), (3, .int p3), (4, .int p4), (5, .int p5), (6, .int p6)] := hl
  have hkl148 := hts (.constantLong RX10 148 (-9223372036854775808)) (by decide +kernel)
  have hlk148 : (-9223372036854775808 : Int64).toInt = -9223372036854775808 := rfl
  have hfl69 := hts (.fieldLink RX10 69 "PlyPlates" "flat" "LPlyPlates$Flat;") (by decide +kernel)
  have hin10 : ∀ w ∈ u_ws RX10 TX10 11, w ∈ wsX10_stretch := by decide +kernel
  have hfl19 := hts (.fieldLink RX10 19 "PlyPlates" "plates" "[LPlyPlates$Plate;") (by decide +kernel)
  have main : ∀ (H : Heap) (locs : List Loc), TW D cy κ G H → va_S (AA κ) s.heap H locs → W p l e rmX10_stretch s m args below meth c H locs 0 0 Q (F0 m 0 ls []) := by
    intro H locs hT hS
    refine lv_aload_n hx hb dX10_stretch_0 rfl (lv_at hl 0 rfl) ?_
    refine lv_iload_n hx hb dX10_stretch_1 rfl (lv_at hl 1 rfl) ?_
    refine tw_Vi (q := (RX10, TX10, 11)) (As := [.int p1]) (rest := []) ⟨hx, hb, hml, hown, hts⟩ (c_X10_isPlate l D cy κ G p0 k0 p1) (cwV 1 hts gX10_stretch_X10_isPlate rfl rfl rfl (by decide +kernel) ⟨Nat.le_of_ble_eq_true rfl, Nat.le_of_ble_eq_true rfl⟩) hK hT hS k0 (by decide) rfl rfl hl.1 rfl (Nat.le_of_ble_eq_true rfl) dX10_stretch_2 ⟨Nat.zero_le _, Nat.zero_le _⟩ (fun x1 u2 H locs hpu2 hT hS => ?_)
    obtain ⟨huu2, qu2⟩ := hpu2
    rw [huu2] at hT
    refine tb_if_eq (tgt := 18) hx hb dX10_stretch_5 (by decide) (fun c3 => ?_) (fun c3 => ?_)
    · skip
      refine lv_ldc2 hx hb hown hkl148 dX10_stretch_18 ?_
      exact hret H locs ls 21 (-9223372036854775808 : Int64) G dX10_stretch_21 ⟨rfl, trivial⟩ hT hS
    · skip
      refine lv_iload_n hx hb dX10_stretch_8 rfl (lv_at hl 2 rfl) ?_
      refine lv_iload_n hx hb dX10_stretch_9 rfl (lv_at hl 3 rfl) ?_
      refine lv_iload hx hb dX10_stretch_10 (lv_at hl 4 rfl) ?_
      refine tw_Si (As := [.int p2, .int p3, .int p4]) (rest := []) ⟨hx, hb, hml, hown, hts⟩ (c_X10_isLoad l D cy κ G p2 p3 p4) (va_cwS 3 hts gX10_stretch_X10_isLoad rfl rfl rfl (by decide +kernel) ⟨Nat.le_of_ble_eq_true rfl, Nat.le_of_ble_eq_true rfl⟩) hK hT hS rfl hl.1 rfl (Nat.le_of_ble_eq_true rfl) dX10_stretch_12 ⟨Nat.zero_le _, Nat.zero_le _⟩ (fun x4 u5 H locs hpu5 hT hS => ?_)
      obtain ⟨huu5, qu5⟩ := hpu5
      rw [huu5] at hT
      refine tb_if_ne (tgt := 22) hx hb dX10_stretch_15 (by decide) (fun c6 => ?_) (fun c6 => ?_)
      · skip
        refine lv_aload_n hx hb dX10_stretch_22 rfl (lv_at hl 0 rfl) ?_
        refine gf_10_7 hx hb hts hin10 hown hK hT k0 hfl69 dX10_stretch_23 (fun a7 ka7 fva7 => ?_)
        refine lv_aload_n hx hb dX10_stretch_26 rfl (lv_at hl 0 rfl) ?_
        refine gf_10_1 hx hb hts hin10 hown hK hT k0 hfl19 dX10_stretch_27 (fun a8 ka8 fva8 => ?_)
        refine lv_iload_n hx hb dX10_stretch_30 rfl (lv_at hl 1 rfl) ?_
        refine tw_ra (K := 30) (t := 3) (ty := .object RX7) (n := 4) (P := fun b => κ b = 8) hx hb hK hT ka8 (by decide) rfl rfl rfl rfl (by omega) rfl dX10_stretch_31 (fun a9 ka9 fva9 => ?_)
        refine tw_Vv (q := (RX2, TX2, 13)) (As := [.ref a9]) (rest := []) ⟨hx, hb, hml, hown, hts⟩ (c_X2_prepare l D cy κ G a7 ka7 a9 ka9) (cwV 1 hts gX10_stretch_X2_prepare rfl rfl rfl (by decide +kernel) ⟨Nat.le_of_ble_eq_true rfl, Nat.le_of_ble_eq_true rfl⟩) hK hT hS ka7 (by decide) rfl rfl hl.1 rfl (Nat.le_of_ble_eq_true rfl) dX10_stretch_32 ⟨Nat.zero_le _, Nat.zero_le _⟩ (fun u11 H locs hpu11 hT hS => ?_)
        obtain ⟨huu11, qu11⟩ := hpu11
        rw [huu11] at hT
        refine lv_aload_n hx hb dX10_stretch_35 rfl (lv_at hl 0 rfl) ?_
        refine gf_10_7 hx hb hts hin10 hown hK hT k0 hfl69 dX10_stretch_36 (fun a12 ka12 fva12 => ?_)
        refine lv_iload_n hx hb dX10_stretch_39 rfl (lv_at hl 2 rfl) ?_
        refine lv_iload_n hx hb dX10_stretch_40 rfl (lv_at hl 3 rfl) ?_
        refine lv_iload hx hb dX10_stretch_41 (lv_at hl 4 rfl) ?_
        refine tw_Vv (q := (RX2, TX2, 13)) (As := [.int p2, .int p3, .int p4]) (rest := []) ⟨hx, hb, hml, hown, hts⟩ (c_X2_pull l D cy κ G a12 ka12 p2 p3 p4) (cwV 3 hts gX10_stretch_X2_pull rfl rfl rfl (by decide +kernel) ⟨Nat.le_of_ble_eq_true rfl, Nat.le_of_ble_eq_true rfl⟩) hK hT hS ka12 (by decide) rfl rfl hl.1 rfl (Nat.le_of_ble_eq_true rfl) dX10_stretch_43 ⟨Nat.zero_le _, Nat.zero_le _⟩ (fun u14 H locs hpu14 hT hS => ?_)
        obtain ⟨huu14, qu14⟩ := hpu14
        rw [huu14] at hT
        refine lv_aload_n hx hb dX10_stretch_46 rfl (lv_at hl 0 rfl) ?_
        refine lv_iload hx hb dX10_stretch_47 (lv_at hl 5 rfl) ?_
        refine lv_iload hx hb dX10_stretch_49 (lv_at hl 6 rfl) ?_
        refine tw_Vl (q := (RX10, TX10, 11)) (As := [.int p5, .int p6]) (rest := []) ⟨hx, hb, hml, hown, hts⟩ (c_X10_stretchPart l D cy κ G p0 k0 p5 p6) (cwV 2 hts gX10_stretch_X10_stretchPart rfl rfl rfl (by decide +kernel) ⟨Nat.le_of_ble_eq_true rfl, Nat.le_of_ble_eq_true rfl⟩) hK hT hS k0 (by decide) rfl rfl hl.1 rfl (Nat.le_of_ble_eq_true rfl) dX10_stretch_51 ⟨Nat.zero_le _, Nat.zero_le _⟩ (fun y15 u16 H locs hpu16 hT hS => ?_)
        obtain ⟨huu16, qu16⟩ := hpu16
        rw [huu16] at hT
        exact hret H locs ls 54 y15 G dX10_stretch_54 ⟨rfl, trivial⟩ hT hS
      · skip
        refine lv_ldc2 hx hb hown hkl148 dX10_stretch_18 ?_
        exact hret H locs ls 21 (-9223372036854775808 : Int64) G dX10_stretch_21 ⟨rfl, trivial⟩ hT hS
  exact main s.heap [] hT va_S.rf

abbrev rmX10_warm : Room := { frames := 4, cells := 0, slots := 0, locals := 108 }
set_option maxHeartbeats 4000000 in
set_option maxRecDepth 100000 in
theorem c_X10_warm (l : Launch) (D : va_G) (cy : Nat → ClassId) (κ : Nat → Nat) (G : Gh) (p0 : Nat) (k0 : κ p0 = 11) (p1 : Int32) (p2 : Int32) (p3 : Int32) (p4 : Int32) : Met l yX10_warm wsX10_warm rmX10_warm (va_Pc [.ref p0, .int p1, .int p2, .int p3, .int p4] (fun U => WW D cy κ G U)) (va_Ql (fun (r : Int64) (u : Gh) => u = G ∧ (True)) (fun u t => WW D cy κ u t) (AA κ)) 0 0 (AA κ) := by
  refine Met.twl (cc := cX10_warm) (maxL := 5) (by decide) rfl (Nat.le_of_ble_eq_true rfl) ?_
  intro p e s m args below meth c Q hx hb hml hown hts hK hT hret ls hl
  have hl : lv_has ls 5 [(0, .ref p0), (1, .int p1), (2, .int p2), (3, .int p3), (4, .int p4)] := hl
  have hkl148 := hts (.constantLong RX10 148 (-9223372036854775808)) (by decide +kernel)
  have hlk148 : (-9223372036854775808 : Int64).toInt = -9223372036854775808 := rfl
  have hcm100 : (-100 : Int32).toInt = -100 := rfl
  have hc100 : (100 : Int32).toInt = 100 := rfl
  have hfl69 := hts (.fieldLink RX10 69 "PlyPlates" "flat" "LPlyPlates$Flat;") (by decide +kernel)
  have hin10 : ∀ w ∈ u_ws RX10 TX10 11, w ∈ wsX10_warm := by decide +kernel
  have hfl19 := hts (.fieldLink RX10 19 "PlyPlates" "plates" "[LPlyPlates$Plate;") (by decide +kernel)
  have main : ∀ (H : Heap) (locs : List Loc), TW D cy κ G H → va_S (AA κ) s.heap H locs → W p l e rmX10_warm s m args below meth c H locs 0 0 Q (F0 m 0 ls []) := by
    intro H locs hT hS
    refine lv_aload_n hx hb dX10_warm_0 rfl (lv_at hl 0 rfl) ?_
    refine lv_iload_n hx hb dX10_warm_1 rfl (lv_at hl 1 rfl) ?_
    refine tw_Vi (q := (RX10, TX10, 11)) (As := [.int p1]) (rest := []) ⟨hx, hb, hml, hown, hts⟩ (c_X10_isPlate l D cy κ G p0 k0 p1) (cwV 1 hts gX10_warm_X10_isPlate rfl rfl rfl (by decide +kernel) ⟨Nat.le_of_ble_eq_true rfl, Nat.le_of_ble_eq_true rfl⟩) hK hT hS k0 (by decide) rfl rfl hl.1 rfl (Nat.le_of_ble_eq_true rfl) dX10_warm_2 ⟨Nat.zero_le _, Nat.zero_le _⟩ (fun x1 u2 H locs hpu2 hT hS => ?_)
    obtain ⟨huu2, qu2⟩ := hpu2
    rw [huu2] at hT
    refine tb_if_eq (tgt := 19) hx hb dX10_warm_5 (by decide) (fun c3 => ?_) (fun c3 => ?_)
    · skip
      refine lv_ldc2 hx hb hown hkl148 dX10_warm_19 ?_
      exact hret H locs ls 22 (-9223372036854775808 : Int64) G dX10_warm_22 ⟨rfl, trivial⟩ hT hS
    · skip
      refine lv_iload_n hx hb dX10_warm_8 rfl (lv_at hl 2 rfl) ?_
      refine lv_bipush (v := (-100 : Int32)) hx hb dX10_warm_9 (by decide) ?_
      refine lv_bipush (v := (100 : Int32)) hx hb dX10_warm_11 (by decide) ?_
      refine tw_Si (As := [.int p2, .int (-100 : Int32), .int (100 : Int32)]) (rest := []) ⟨hx, hb, hml, hown, hts⟩ (c_X10_isWithin l D cy κ G p2 (-100 : Int32) (100 : Int32)) (va_cwS 3 hts gX10_warm_X10_isWithin rfl rfl rfl (by decide +kernel) ⟨Nat.le_of_ble_eq_true rfl, Nat.le_of_ble_eq_true rfl⟩) hK hT hS rfl hl.1 rfl (Nat.le_of_ble_eq_true rfl) dX10_warm_13 ⟨Nat.zero_le _, Nat.zero_le _⟩ (fun x4 u5 H locs hpu5 hT hS => ?_)
      obtain ⟨huu5, qu5⟩ := hpu5
      rw [huu5] at hT
      refine tb_if_ne (tgt := 23) hx hb dX10_warm_16 (by decide) (fun c6 => ?_) (fun c6 => ?_)
      · skip
        refine lv_aload_n hx hb dX10_warm_23 rfl (lv_at hl 0 rfl) ?_
        refine gf_10_7 hx hb hts hin10 hown hK hT k0 hfl69 dX10_warm_24 (fun a7 ka7 fva7 => ?_)
        refine lv_aload_n hx hb dX10_warm_27 rfl (lv_at hl 0 rfl) ?_
        refine gf_10_1 hx hb hts hin10 hown hK hT k0 hfl19 dX10_warm_28 (fun a8 ka8 fva8 => ?_)
        refine lv_iload_n hx hb dX10_warm_31 rfl (lv_at hl 1 rfl) ?_
        refine tw_ra (K := 30) (t := 3) (ty := .object RX7) (n := 4) (P := fun b => κ b = 8) hx hb hK hT ka8 (by decide) rfl rfl rfl rfl (by omega) rfl dX10_warm_32 (fun a9 ka9 fva9 => ?_)
        refine tw_Vv (q := (RX2, TX2, 13)) (As := [.ref a9]) (rest := []) ⟨hx, hb, hml, hown, hts⟩ (c_X2_prepare l D cy κ G a7 ka7 a9 ka9) (cwV 1 hts gX10_warm_X2_prepare rfl rfl rfl (by decide +kernel) ⟨Nat.le_of_ble_eq_true rfl, Nat.le_of_ble_eq_true rfl⟩) hK hT hS ka7 (by decide) rfl rfl hl.1 rfl (Nat.le_of_ble_eq_true rfl) dX10_warm_33 ⟨Nat.zero_le _, Nat.zero_le _⟩ (fun u11 H locs hpu11 hT hS => ?_)
        obtain ⟨huu11, qu11⟩ := hpu11
        rw [huu11] at hT
        refine lv_aload_n hx hb dX10_warm_36 rfl (lv_at hl 0 rfl) ?_
        refine gf_10_7 hx hb hts hin10 hown hK hT k0 hfl69 dX10_warm_37 (fun a12 ka12 fva12 => ?_)
        refine lv_aload_n hx hb dX10_warm_40 rfl (lv_at hl 0 rfl) ?_
        refine gf_10_1 hx hb hts hin10 hown hK hT k0 hfl19 dX10_warm_41 (fun a13 ka13 fva13 => ?_)
        refine lv_iload_n hx hb dX10_warm_44 rfl (lv_at hl 1 rfl) ?_
        refine tw_ra (K := 30) (t := 3) (ty := .object RX7) (n := 4) (P := fun b => κ b = 8) hx hb hK hT ka13 (by decide) rfl rfl rfl rfl (by omega) rfl dX10_warm_45 (fun a14 ka14 fva14 => ?_)
        refine lv_iload_n hx hb dX10_warm_46 rfl (lv_at hl 2 rfl) ?_
        refine tw_Vv (q := (RX2, TX2, 13)) (As := [.ref a14, .int p2]) (rest := []) ⟨hx, hb, hml, hown, hts⟩ (c_X2_warmUp l D cy κ G a12 ka12 a14 ka14 p2) (cwV 2 hts gX10_warm_X2_warmUp rfl rfl rfl (by decide +kernel) ⟨Nat.le_of_ble_eq_true rfl, Nat.le_of_ble_eq_true rfl⟩) hK hT hS ka12 (by decide) rfl rfl hl.1 rfl (Nat.le_of_ble_eq_true rfl) dX10_warm_47 ⟨Nat.zero_le _, Nat.zero_le _⟩ (fun u16 H locs hpu16 hT hS => ?_)
        obtain ⟨huu16, qu16⟩ := hpu16
        rw [huu16] at hT
        refine lv_aload_n hx hb dX10_warm_50 rfl (lv_at hl 0 rfl) ?_
        refine lv_iload_n hx hb dX10_warm_51 rfl (lv_at hl 3 rfl) ?_
        refine lv_iload hx hb dX10_warm_52 (lv_at hl 4 rfl) ?_
        refine tw_Vl (q := (RX10, TX10, 11)) (As := [.int p3, .int p4]) (rest := []) ⟨hx, hb, hml, hown, hts⟩ (c_X10_stretchPart l D cy κ G p0 k0 p3 p4) (cwV 2 hts gX10_warm_X10_stretchPart rfl rfl rfl (by decide +kernel) ⟨Nat.le_of_ble_eq_true rfl, Nat.le_of_ble_eq_true rfl⟩) hK hT hS k0 (by decide) rfl rfl hl.1 rfl (Nat.le_of_ble_eq_true rfl) dX10_warm_54 ⟨Nat.zero_le _, Nat.zero_le _⟩ (fun y17 u18 H locs hpu18 hT hS => ?_)
        obtain ⟨huu18, qu18⟩ := hpu18
        rw [huu18] at hT
        exact hret H locs ls 57 y17 G dX10_warm_57 ⟨rfl, trivial⟩ hT hS
      · skip
        refine lv_ldc2 hx hb hown hkl148 dX10_warm_19 ?_
        exact hret H locs ls 22 (-9223372036854775808 : Int64) G dX10_warm_22 ⟨rfl, trivial⟩ hT hS
  exact main s.heap [] hT va_S.rf

abbrev rmX10_holds : Room := { frames := 4, cells := 0, slots := 0, locals := 108 }
set_option maxHeartbeats 4000000 in
set_option maxRecDepth 100000 in
theorem c_X10_holds (l : Launch) (D : va_G) (cy : Nat → ClassId) (κ : Nat → Nat) (G : Gh) (p0 : Nat) (k0 : κ p0 = 11) (p1 : Int32) (p2 : Int32) (p3 : Int32) (p4 : Int32) : Met l yX10_holds wsX10_holds rmX10_holds (va_Pc [.ref p0, .int p1, .int p2, .int p3, .int p4] (fun U => WW D cy κ G U)) (va_Qi (fun (r : Int32) (u : Gh) => u = G ∧ (True)) (fun u t => WW D cy κ u t) (AA κ)) 0 0 (AA κ) := by
  refine Met.twi (cc := cX10_holds) (maxL := 5) (by decide) rfl (Nat.le_of_ble_eq_true rfl) ?_
  intro p e s m args below meth c Q hx hb hml hown hts hK hT hret ls hl
  have hl : lv_has ls 5 [(0, .ref p0), (1, .int p1), (2, .int p2), (3, .int p3), (4, .int p4)] := hl
  have hfl69 := hts (.fieldLink RX10 69 "PlyPlates" "flat" "LPlyPlates$Flat;") (by decide +kernel)
  have hin10 : ∀ w ∈ u_ws RX10 TX10 11, w ∈ wsX10_holds := by decide +kernel
  have hfl19 := hts (.fieldLink RX10 19 "PlyPlates" "plates" "[LPlyPlates$Plate;") (by decide +kernel)
  have hc0 : (0 : Int32).toInt = 0 := rfl
  have hc1 : (1 : Int32).toInt = 1 := rfl
  have hcm2 : (-2 : Int32).toInt = -2 := rfl
  have hcm1 : (-1 : Int32).toInt = -1 := rfl
  have main : ∀ (H : Heap) (locs : List Loc), TW D cy κ G H → va_S (AA κ) s.heap H locs → W p l e rmX10_holds s m args below meth c H locs 0 0 Q (F0 m 0 ls []) := by
    intro H locs hT hS
    refine lv_aload_n hx hb dX10_holds_0 rfl (lv_at hl 0 rfl) ?_
    refine lv_iload_n hx hb dX10_holds_1 rfl (lv_at hl 1 rfl) ?_
    refine tw_Vi (q := (RX10, TX10, 11)) (As := [.int p1]) (rest := []) ⟨hx, hb, hml, hown, hts⟩ (c_X10_isPlate l D cy κ G p0 k0 p1) (cwV 1 hts gX10_holds_X10_isPlate rfl rfl rfl (by decide +kernel) ⟨Nat.le_of_ble_eq_true rfl, Nat.le_of_ble_eq_true rfl⟩) hK hT hS k0 (by decide) rfl rfl hl.1 rfl (Nat.le_of_ble_eq_true rfl) dX10_holds_2 ⟨Nat.zero_le _, Nat.zero_le _⟩ (fun x1 u2 H locs hpu2 hT hS => ?_)
    obtain ⟨huu2, qu2⟩ := hpu2
    rw [huu2] at hT
    refine tb_if_ne (tgt := 10) hx hb dX10_holds_5 (by decide) (fun c3 => ?_) (fun c3 => ?_)
    · skip
      refine lv_iload_n hx hb dX10_holds_10 rfl (lv_at hl 2 rfl) ?_
      refine lv_iload_n hx hb dX10_holds_11 rfl (lv_at hl 3 rfl) ?_
      refine lv_iload hx hb dX10_holds_12 (lv_at hl 4 rfl) ?_
      refine tw_Si (As := [.int p2, .int p3, .int p4]) (rest := []) ⟨hx, hb, hml, hown, hts⟩ (c_X10_isLoad l D cy κ G p2 p3 p4) (va_cwS 3 hts gX10_holds_X10_isLoad rfl rfl rfl (by decide +kernel) ⟨Nat.le_of_ble_eq_true rfl, Nat.le_of_ble_eq_true rfl⟩) hK hT hS rfl hl.1 rfl (Nat.le_of_ble_eq_true rfl) dX10_holds_14 ⟨Nat.zero_le _, Nat.zero_le _⟩ (fun x4 u5 H locs hpu5 hT hS => ?_)
      obtain ⟨huu5, qu5⟩ := hpu5
      rw [huu5] at hT
      refine tb_if_ne (tgt := 23) hx hb dX10_holds_17 (by decide) (fun c6 => ?_) (fun c6 => ?_)
      · skip
        refine lv_aload_n hx hb dX10_holds_23 rfl (lv_at hl 0 rfl) ?_
        refine gf_10_7 hx hb hts hin10 hown hK hT k0 hfl69 dX10_holds_24 (fun a7 ka7 fva7 => ?_)
        refine lv_aload_n hx hb dX10_holds_27 rfl (lv_at hl 0 rfl) ?_
        refine gf_10_1 hx hb hts hin10 hown hK hT k0 hfl19 dX10_holds_28 (fun a8 ka8 fva8 => ?_)
        refine lv_iload_n hx hb dX10_holds_31 rfl (lv_at hl 1 rfl) ?_
        refine tw_ra (K := 30) (t := 3) (ty := .object RX7) (n := 4) (P := fun b => κ b = 8) hx hb hK hT ka8 (by decide) rfl rfl rfl rfl (by omega) rfl dX10_holds_32 (fun a9 ka9 fva9 => ?_)
        refine tw_Vv (q := (RX2, TX2, 13)) (As := [.ref a9]) (rest := []) ⟨hx, hb, hml, hown, hts⟩ (c_X2_prepare l D cy κ G a7 ka7 a9 ka9) (cwV 1 hts gX10_holds_X2_prepare rfl rfl rfl (by decide +kernel) ⟨Nat.le_of_ble_eq_true rfl, Nat.le_of_ble_eq_true rfl⟩) hK hT hS ka7 (by decide) rfl rfl hl.1 rfl (Nat.le_of_ble_eq_true rfl) dX10_holds_33 ⟨Nat.zero_le _, Nat.zero_le _⟩ (fun u11 H locs hpu11 hT hS => ?_)
        obtain ⟨huu11, qu11⟩ := hpu11
        rw [huu11] at hT
        refine lv_aload_n hx hb dX10_holds_36 rfl (lv_at hl 0 rfl) ?_
        refine gf_10_7 hx hb hts hin10 hown hK hT k0 hfl69 dX10_holds_37 (fun a12 ka12 fva12 => ?_)
        refine lv_aload_n hx hb dX10_holds_40 rfl (lv_at hl 0 rfl) ?_
        refine gf_10_1 hx hb hts hin10 hown hK hT k0 hfl19 dX10_holds_41 (fun a13 ka13 fva13 => ?_)
        refine lv_iload_n hx hb dX10_holds_44 rfl (lv_at hl 1 rfl) ?_
        refine tw_ra (K := 30) (t := 3) (ty := .object RX7) (n := 4) (P := fun b => κ b = 8) hx hb hK hT ka13 (by decide) rfl rfl rfl rfl (by omega) rfl dX10_holds_45 (fun a14 ka14 fva14 => ?_)
        refine lv_iload_n hx hb dX10_holds_46 rfl (lv_at hl 2 rfl) ?_
        refine lv_iload_n hx hb dX10_holds_47 rfl (lv_at hl 3 rfl) ?_
        refine lv_iload hx hb dX10_holds_48 (lv_at hl 4 rfl) ?_
        refine tw_Vi (q := (RX2, TX2, 13)) (As := [.ref a14, .int p2, .int p3, .int p4]) (rest := []) ⟨hx, hb, hml, hown, hts⟩ (c_X2_isHeld l D cy κ G a12 ka12 a14 ka14 p2 p3 p4) (cwV 4 hts gX10_holds_X2_isHeld rfl rfl rfl (by decide +kernel) ⟨Nat.le_of_ble_eq_true rfl, Nat.le_of_ble_eq_true rfl⟩) hK hT hS ka12 (by decide) rfl rfl hl.1 rfl (Nat.le_of_ble_eq_true rfl) dX10_holds_50 ⟨Nat.zero_le _, Nat.zero_le _⟩ (fun x15 u16 H locs hpu16 hT hS => ?_)
        obtain ⟨huu16, qu16⟩ := hpu16
        rw [huu16] at hT
        refine tb_if_eq (tgt := 60) hx hb dX10_holds_53 (by decide) (fun c17 => ?_) (fun c17 => ?_)
        · skip
          refine lv_iconst (v := (0 : Int32)) hx hb dX10_holds_60 (by decide) ?_
          exact hret H locs ls 61 (0 : Int32) G dX10_holds_61 ⟨rfl, trivial⟩ hT hS
        · skip
          refine lv_iconst (v := (1 : Int32)) hx hb dX10_holds_56 (by decide) ?_
          refine lv_goto (tgt := 61) hx hb dX10_holds_57 (by decide) ?_
          exact hret H locs ls 61 (1 : Int32) G dX10_holds_61 ⟨rfl, trivial⟩ hT hS
      · skip
        refine lv_bipush (v := (-2 : Int32)) hx hb dX10_holds_20 (by decide) ?_
        exact hret H locs ls 22 (-2 : Int32) G dX10_holds_22 ⟨rfl, trivial⟩ hT hS
    · skip
      refine lv_iconst (v := (-1 : Int32)) hx hb dX10_holds_8 (by decide) ?_
      exact hret H locs ls 9 (-1 : Int32) G dX10_holds_9 ⟨rfl, trivial⟩ hT hS
  exact main s.heap [] hT va_S.rf

abbrev rmX10_first : Room := { frames := 4, cells := 0, slots := 0, locals := 108 }
set_option maxHeartbeats 4000000 in
set_option maxRecDepth 100000 in
theorem c_X10_first (l : Launch) (D : va_G) (cy : Nat → ClassId) (κ : Nat → Nat) (G : Gh) (p0 : Nat) (k0 : κ p0 = 11) (p1 : Int32) (p2 : Int32) (p3 : Int32) (p4 : Int32) : Met l yX10_first wsX10_first rmX10_first (va_Pc [.ref p0, .int p1, .int p2, .int p3, .int p4] (fun U => WW D cy κ G U)) (va_Qi (fun (r : Int32) (u : Gh) => u = G ∧ (True)) (fun u t => WW D cy κ u t) (AA κ)) 0 0 (AA κ) := by
  refine Met.twi (cc := cX10_first) (maxL := 5) (by decide) rfl (Nat.le_of_ble_eq_true rfl) ?_
  intro p e s m args below meth c Q hx hb hml hown hts hK hT hret ls hl
  have hl : lv_has ls 5 [(0, .ref p0), (1, .int p1), (2, .int p2), (3, .int p3), (4, .int p4)] := hl
  have hfl69 := hts (.fieldLink RX10 69 "PlyPlates" "flat" "LPlyPlates$Flat;") (by decide +kernel)
  have hin10 : ∀ w ∈ u_ws RX10 TX10 11, w ∈ wsX10_first := by decide +kernel
  have hfl19 := hts (.fieldLink RX10 19 "PlyPlates" "plates" "[LPlyPlates$Plate;") (by decide +kernel)
  have hfl172 := hts (.fieldLink RX10 172 "PlyPlates$Flat" "below" "J") (by decide +kernel)
  have hin2 : ∀ w ∈ u_ws RX2 TX2 13, w ∈ wsX10_first := by decide +kernel
  have hlc0 : (0 : Int64).toInt = 0 := rfl
  have hfl197 := hts (.fieldLink RX10 197 "PlyPlates$Flat" "worstPlace" "I") (by decide +kernel)
  have hcm2 : (-2 : Int32).toInt = -2 := rfl
  have hcm1 : (-1 : Int32).toInt = -1 := rfl
  have main : ∀ (H : Heap) (locs : List Loc), TW D cy κ G H → va_S (AA κ) s.heap H locs → W p l e rmX10_first s m args below meth c H locs 0 0 Q (F0 m 0 ls []) := by
    intro H locs hT hS
    refine lv_aload_n hx hb dX10_first_0 rfl (lv_at hl 0 rfl) ?_
    refine lv_iload_n hx hb dX10_first_1 rfl (lv_at hl 1 rfl) ?_
    refine tw_Vi (q := (RX10, TX10, 11)) (As := [.int p1]) (rest := []) ⟨hx, hb, hml, hown, hts⟩ (c_X10_isPlate l D cy κ G p0 k0 p1) (cwV 1 hts gX10_first_X10_isPlate rfl rfl rfl (by decide +kernel) ⟨Nat.le_of_ble_eq_true rfl, Nat.le_of_ble_eq_true rfl⟩) hK hT hS k0 (by decide) rfl rfl hl.1 rfl (Nat.le_of_ble_eq_true rfl) dX10_first_2 ⟨Nat.zero_le _, Nat.zero_le _⟩ (fun x1 u2 H locs hpu2 hT hS => ?_)
    obtain ⟨huu2, qu2⟩ := hpu2
    rw [huu2] at hT
    refine tb_if_ne (tgt := 10) hx hb dX10_first_5 (by decide) (fun c3 => ?_) (fun c3 => ?_)
    · skip
      refine lv_aload_n hx hb dX10_first_10 rfl (lv_at hl 0 rfl) ?_
      refine gf_10_7 hx hb hts hin10 hown hK hT k0 hfl69 dX10_first_11 (fun a4 ka4 fva4 => ?_)
      refine lv_aload_n hx hb dX10_first_14 rfl (lv_at hl 0 rfl) ?_
      refine gf_10_1 hx hb hts hin10 hown hK hT k0 hfl19 dX10_first_15 (fun a5 ka5 fva5 => ?_)
      refine lv_iload_n hx hb dX10_first_18 rfl (lv_at hl 1 rfl) ?_
      refine tw_ra (K := 30) (t := 3) (ty := .object RX7) (n := 4) (P := fun b => κ b = 8) hx hb hK hT ka5 (by decide) rfl rfl rfl rfl (by omega) rfl dX10_first_19 (fun a6 ka6 fva6 => ?_)
      refine tw_Vv (q := (RX2, TX2, 13)) (As := [.ref a6]) (rest := []) ⟨hx, hb, hml, hown, hts⟩ (c_X2_prepare l D cy κ G a4 ka4 a6 ka6) (cwV 1 hts gX10_first_X2_prepare rfl rfl rfl (by decide +kernel) ⟨Nat.le_of_ble_eq_true rfl, Nat.le_of_ble_eq_true rfl⟩) hK hT hS ka4 (by decide) rfl rfl hl.1 rfl (Nat.le_of_ble_eq_true rfl) dX10_first_20 ⟨Nat.zero_le _, Nat.zero_le _⟩ (fun u8 H locs hpu8 hT hS => ?_)
      obtain ⟨huu8, qu8⟩ := hpu8
      rw [huu8] at hT
      refine lv_aload_n hx hb dX10_first_23 rfl (lv_at hl 0 rfl) ?_
      refine gf_10_7 hx hb hts hin10 hown hK hT k0 hfl69 dX10_first_24 (fun a9 ka9 fva9 => ?_)
      refine gf_2_6 hx hb hts hin2 hown hK hT ka9 hfl172 dX10_first_27 (fun y10 ky10 fvy10 => ?_)
      refine lv_lconst (v := 0) hx hb dX10_first_30 (by decide) ?_
      refine tb_lcmp2 hx hb dX10_first_31 (fun x11 tx11 ux11 => ?_)
      refine tb_if_ne (tgt := 37) hx hb dX10_first_32 (by decide) (fun c12 => ?_) (fun c12 => ?_)
      · skip
        refine lv_iload_n hx hb dX10_first_37 rfl (lv_at hl 2 rfl) ?_
        refine lv_iload_n hx hb dX10_first_38 rfl (lv_at hl 3 rfl) ?_
        refine lv_iload hx hb dX10_first_39 (lv_at hl 4 rfl) ?_
        refine tw_Si (As := [.int p2, .int p3, .int p4]) (rest := []) ⟨hx, hb, hml, hown, hts⟩ (c_X10_isLoad l D cy κ G p2 p3 p4) (va_cwS 3 hts gX10_first_X10_isLoad rfl rfl rfl (by decide +kernel) ⟨Nat.le_of_ble_eq_true rfl, Nat.le_of_ble_eq_true rfl⟩) hK hT hS rfl hl.1 rfl (Nat.le_of_ble_eq_true rfl) dX10_first_41 ⟨Nat.zero_le _, Nat.zero_le _⟩ (fun x13 u14 H locs hpu14 hT hS => ?_)
        obtain ⟨huu14, qu14⟩ := hpu14
        rw [huu14] at hT
        refine tb_if_ne (tgt := 50) hx hb dX10_first_44 (by decide) (fun c15 => ?_) (fun c15 => ?_)
        · skip
          refine lv_aload_n hx hb dX10_first_50 rfl (lv_at hl 0 rfl) ?_
          refine gf_10_7 hx hb hts hin10 hown hK hT k0 hfl69 dX10_first_51 (fun a16 ka16 fva16 => ?_)
          refine lv_aload_n hx hb dX10_first_54 rfl (lv_at hl 0 rfl) ?_
          refine gf_10_1 hx hb hts hin10 hown hK hT k0 hfl19 dX10_first_55 (fun a17 ka17 fva17 => ?_)
          refine lv_iload_n hx hb dX10_first_58 rfl (lv_at hl 1 rfl) ?_
          refine tw_ra (K := 30) (t := 3) (ty := .object RX7) (n := 4) (P := fun b => κ b = 8) hx hb hK hT ka17 (by decide) rfl rfl rfl rfl (by omega) rfl dX10_first_59 (fun a18 ka18 fva18 => ?_)
          refine lv_iload_n hx hb dX10_first_60 rfl (lv_at hl 2 rfl) ?_
          refine lv_iload_n hx hb dX10_first_61 rfl (lv_at hl 3 rfl) ?_
          refine lv_iload hx hb dX10_first_62 (lv_at hl 4 rfl) ?_
          refine tw_Vv (q := (RX2, TX2, 13)) (As := [.ref a18, .int p2, .int p3, .int p4]) (rest := []) ⟨hx, hb, hml, hown, hts⟩ (c_X2_findWorst l D cy κ G a16 ka16 a18 ka18 p2 p3 p4) (cwV 4 hts gX10_first_X2_findWorst rfl rfl rfl (by decide +kernel) ⟨Nat.le_of_ble_eq_true rfl, Nat.le_of_ble_eq_true rfl⟩) hK hT hS ka16 (by decide) rfl rfl hl.1 rfl (Nat.le_of_ble_eq_true rfl) dX10_first_64 ⟨Nat.zero_le _, Nat.zero_le _⟩ (fun u20 H locs hpu20 hT hS => ?_)
          obtain ⟨huu20, qu20⟩ := hpu20
          rw [huu20] at hT
          refine lv_aload_n hx hb dX10_first_67 rfl (lv_at hl 0 rfl) ?_
          refine gf_10_7 hx hb hts hin10 hown hK hT k0 hfl69 dX10_first_68 (fun a21 ka21 fva21 => ?_)
          refine gf_2_10 hx hb hts hin2 hown hK hT ka21 hfl197 dX10_first_71 (fun x22 kx22 fvx22 => ?_)
          exact hret H locs ls 74 x22 G dX10_first_74 ⟨rfl, trivial⟩ hT hS
        · skip
          refine lv_bipush (v := (-2 : Int32)) hx hb dX10_first_47 (by decide) ?_
          exact hret H locs ls 49 (-2 : Int32) G dX10_first_49 ⟨rfl, trivial⟩ hT hS
      · skip
        refine lv_iconst (v := (-1 : Int32)) hx hb dX10_first_35 (by decide) ?_
        exact hret H locs ls 36 (-1 : Int32) G dX10_first_36 ⟨rfl, trivial⟩ hT hS
    · skip
      refine lv_iconst (v := (-1 : Int32)) hx hb dX10_first_8 (by decide) ?_
      exact hret H locs ls 9 (-1 : Int32) G dX10_first_9 ⟨rfl, trivial⟩ hT hS
  exact main s.heap [] hT va_S.rf

abbrev rmX10_factor : Room := { frames := 4, cells := 0, slots := 0, locals := 108 }
set_option maxHeartbeats 4000000 in
set_option maxRecDepth 100000 in
theorem c_X10_factor (l : Launch) (D : va_G) (cy : Nat → ClassId) (κ : Nat → Nat) (G : Gh) (p0 : Nat) (k0 : κ p0 = 11) (p1 : Int32) (p2 : Int32) (p3 : Int32) (p4 : Int32) (p5 : Int32) : Met l yX10_factor wsX10_factor rmX10_factor (va_Pc [.ref p0, .int p1, .int p2, .int p3, .int p4, .int p5] (fun U => WW D cy κ G U)) (va_Ql (fun (r : Int64) (u : Gh) => u = G ∧ (True)) (fun u t => WW D cy κ u t) (AA κ)) 0 0 (AA κ) := by
  refine Met.twl (cc := cX10_factor) (maxL := 6) (by decide) rfl (Nat.le_of_ble_eq_true rfl) ?_
  intro p e s m args below meth c Q hx hb hml hown hts hK hT hret ls hl
  have hl : lv_has ls 6 [(0, .ref p0), (1, .int p1), (2, .int p2), (3, .int p3), (4, .int p4), (5, .int p5)] := hl
  have hkl148 := hts (.constantLong RX10 148 (-9223372036854775808)) (by decide +kernel)
  have hlk148 : (-9223372036854775808 : Int64).toInt = -9223372036854775808 := rfl
  have hfl69 := hts (.fieldLink RX10 69 "PlyPlates" "flat" "LPlyPlates$Flat;") (by decide +kernel)
  have hin10 : ∀ w ∈ u_ws RX10 TX10 11, w ∈ wsX10_factor := by decide +kernel
  have hfl19 := hts (.fieldLink RX10 19 "PlyPlates" "plates" "[LPlyPlates$Plate;") (by decide +kernel)
  have hfl197 := hts (.fieldLink RX10 197 "PlyPlates$Flat" "worstPlace" "I") (by decide +kernel)
  have hin2 : ∀ w ∈ u_ws RX2 TX2 13, w ∈ wsX10_factor := by decide +kernel
  have hcm1 : (-1 : Int32).toInt = -1 := rfl
  have hfl52 := hts (.fieldLink RX10 52 "PlyPlates" "fraction" "LPlyPlates$Fraction;") (by decide +kernel)
  have hfl204 := hts (.fieldLink RX10 204 "PlyPlates$Flat" "worstStress" "J") (by decide +kernel)
  have main : ∀ (H : Heap) (locs : List Loc), TW D cy κ G H → va_S (AA κ) s.heap H locs → W p l e rmX10_factor s m args below meth c H locs 0 0 Q (F0 m 0 ls []) := by
    intro H locs hT hS
    refine lv_aload_n hx hb dX10_factor_0 rfl (lv_at hl 0 rfl) ?_
    refine lv_iload_n hx hb dX10_factor_1 rfl (lv_at hl 1 rfl) ?_
    refine tw_Vi (q := (RX10, TX10, 11)) (As := [.int p1]) (rest := []) ⟨hx, hb, hml, hown, hts⟩ (c_X10_isPlate l D cy κ G p0 k0 p1) (cwV 1 hts gX10_factor_X10_isPlate rfl rfl rfl (by decide +kernel) ⟨Nat.le_of_ble_eq_true rfl, Nat.le_of_ble_eq_true rfl⟩) hK hT hS k0 (by decide) rfl rfl hl.1 rfl (Nat.le_of_ble_eq_true rfl) dX10_factor_2 ⟨Nat.zero_le _, Nat.zero_le _⟩ (fun x1 u2 H locs hpu2 hT hS => ?_)
    obtain ⟨huu2, qu2⟩ := hpu2
    rw [huu2] at hT
    refine tb_if_eq (tgt := 18) hx hb dX10_factor_5 (by decide) (fun c3 => ?_) (fun c3 => ?_)
    · skip
      refine lv_ldc2 hx hb hown hkl148 dX10_factor_18 ?_
      exact hret H locs ls 21 (-9223372036854775808 : Int64) G dX10_factor_21 ⟨rfl, trivial⟩ hT hS
    · skip
      refine lv_iload_n hx hb dX10_factor_8 rfl (lv_at hl 2 rfl) ?_
      refine lv_iload_n hx hb dX10_factor_9 rfl (lv_at hl 3 rfl) ?_
      refine lv_iload hx hb dX10_factor_10 (lv_at hl 4 rfl) ?_
      refine tw_Si (As := [.int p2, .int p3, .int p4]) (rest := []) ⟨hx, hb, hml, hown, hts⟩ (c_X10_isLoad l D cy κ G p2 p3 p4) (va_cwS 3 hts gX10_factor_X10_isLoad rfl rfl rfl (by decide +kernel) ⟨Nat.le_of_ble_eq_true rfl, Nat.le_of_ble_eq_true rfl⟩) hK hT hS rfl hl.1 rfl (Nat.le_of_ble_eq_true rfl) dX10_factor_12 ⟨Nat.zero_le _, Nat.zero_le _⟩ (fun x4 u5 H locs hpu5 hT hS => ?_)
      obtain ⟨huu5, qu5⟩ := hpu5
      rw [huu5] at hT
      refine tb_if_ne (tgt := 22) hx hb dX10_factor_15 (by decide) (fun c6 => ?_) (fun c6 => ?_)
      · skip
        refine lv_aload_n hx hb dX10_factor_22 rfl (lv_at hl 0 rfl) ?_
        refine gf_10_7 hx hb hts hin10 hown hK hT k0 hfl69 dX10_factor_23 (fun a7 ka7 fva7 => ?_)
        refine lv_aload_n hx hb dX10_factor_26 rfl (lv_at hl 0 rfl) ?_
        refine gf_10_1 hx hb hts hin10 hown hK hT k0 hfl19 dX10_factor_27 (fun a8 ka8 fva8 => ?_)
        refine lv_iload_n hx hb dX10_factor_30 rfl (lv_at hl 1 rfl) ?_
        refine tw_ra (K := 30) (t := 3) (ty := .object RX7) (n := 4) (P := fun b => κ b = 8) hx hb hK hT ka8 (by decide) rfl rfl rfl rfl (by omega) rfl dX10_factor_31 (fun a9 ka9 fva9 => ?_)
        refine tw_Vv (q := (RX2, TX2, 13)) (As := [.ref a9]) (rest := []) ⟨hx, hb, hml, hown, hts⟩ (c_X2_prepare l D cy κ G a7 ka7 a9 ka9) (cwV 1 hts gX10_factor_X2_prepare rfl rfl rfl (by decide +kernel) ⟨Nat.le_of_ble_eq_true rfl, Nat.le_of_ble_eq_true rfl⟩) hK hT hS ka7 (by decide) rfl rfl hl.1 rfl (Nat.le_of_ble_eq_true rfl) dX10_factor_32 ⟨Nat.zero_le _, Nat.zero_le _⟩ (fun u11 H locs hpu11 hT hS => ?_)
        obtain ⟨huu11, qu11⟩ := hpu11
        rw [huu11] at hT
        refine lv_aload_n hx hb dX10_factor_35 rfl (lv_at hl 0 rfl) ?_
        refine gf_10_7 hx hb hts hin10 hown hK hT k0 hfl69 dX10_factor_36 (fun a12 ka12 fva12 => ?_)
        refine lv_aload_n hx hb dX10_factor_39 rfl (lv_at hl 0 rfl) ?_
        refine gf_10_1 hx hb hts hin10 hown hK hT k0 hfl19 dX10_factor_40 (fun a13 ka13 fva13 => ?_)
        refine lv_iload_n hx hb dX10_factor_43 rfl (lv_at hl 1 rfl) ?_
        refine tw_ra (K := 30) (t := 3) (ty := .object RX7) (n := 4) (P := fun b => κ b = 8) hx hb hK hT ka13 (by decide) rfl rfl rfl rfl (by omega) rfl dX10_factor_44 (fun a14 ka14 fva14 => ?_)
        refine lv_iload_n hx hb dX10_factor_45 rfl (lv_at hl 2 rfl) ?_
        refine lv_iload_n hx hb dX10_factor_46 rfl (lv_at hl 3 rfl) ?_
        refine lv_iload hx hb dX10_factor_47 (lv_at hl 4 rfl) ?_
        refine tw_Vv (q := (RX2, TX2, 13)) (As := [.ref a14, .int p2, .int p3, .int p4]) (rest := []) ⟨hx, hb, hml, hown, hts⟩ (c_X2_findWorst l D cy κ G a12 ka12 a14 ka14 p2 p3 p4) (cwV 4 hts gX10_factor_X2_findWorst rfl rfl rfl (by decide +kernel) ⟨Nat.le_of_ble_eq_true rfl, Nat.le_of_ble_eq_true rfl⟩) hK hT hS ka12 (by decide) rfl rfl hl.1 rfl (Nat.le_of_ble_eq_true rfl) dX10_factor_49 ⟨Nat.zero_le _, Nat.zero_le _⟩ (fun u16 H locs hpu16 hT hS => ?_)
        obtain ⟨huu16, qu16⟩ := hpu16
        rw [huu16] at hT
        refine lv_aload_n hx hb dX10_factor_52 rfl (lv_at hl 0 rfl) ?_
        refine gf_10_7 hx hb hts hin10 hown hK hT k0 hfl69 dX10_factor_53 (fun a17 ka17 fva17 => ?_)
        refine gf_2_10 hx hb hts hin2 hown hK hT ka17 hfl197 dX10_factor_56 (fun x18 kx18 fvx18 => ?_)
        refine lv_iconst (v := (-1 : Int32)) hx hb dX10_factor_59 (by decide) ?_
        refine tb_icmp_ne (tgt := 67) hx hb dX10_factor_60 (by decide) (fun c19 => ?_) (fun c19 => ?_)
        · skip
          refine lv_aload_n hx hb dX10_factor_67 rfl (lv_at hl 0 rfl) ?_
          refine gf_10_6 hx hb hts hin10 hown hK hT k0 hfl52 dX10_factor_68 (fun a20 ka20 fva20 => ?_)
          refine lv_aload_n hx hb dX10_factor_71 rfl (lv_at hl 0 rfl) ?_
          refine gf_10_7 hx hb hts hin10 hown hK hT k0 hfl69 dX10_factor_72 (fun a21 ka21 fva21 => ?_)
          obtain rfl : a17 = a21 := eRef (FV.eq fva17 fva21)
          refine tw_Vl (q := (RX2, TX2, 13)) (As := []) (rest := [.ref a20]) ⟨hx, hb, hml, hown, hts⟩ (c_X2_worstLimit l D cy κ G a17 ka17) (cwV 0 hts gX10_factor_X2_worstLimit rfl rfl rfl (by decide +kernel) ⟨Nat.le_of_ble_eq_true rfl, Nat.le_of_ble_eq_true rfl⟩) hK hT hS ka17 (by decide) rfl rfl hl.1 rfl (Nat.le_of_ble_eq_true rfl) dX10_factor_75 ⟨Nat.zero_le _, Nat.zero_le _⟩ (fun y22 u23 H locs hpu23 hT hS => ?_)
          obtain ⟨huu23, qu23⟩ := hpu23
          rw [huu23] at hT
          refine lv_aload_n hx hb dX10_factor_78 rfl (lv_at hl 0 rfl) ?_
          refine gf_10_7 hx hb hts hin10 hown hK hT k0 hfl69 dX10_factor_79 (fun a24 ka24 fva24 => ?_)
          refine gf_2_11 hx hb hts hin2 hown hK hT ka24 hfl204 dX10_factor_82 (fun y25 ky25 fvy25 => ?_)
          refine tw_Vv (q := (RX3, TX3, 2)) (As := [.long y22, .long y25]) (rest := []) ⟨hx, hb, hml, hown, hts⟩ (c_X3_become l D cy κ G a20 ka20 y22 y25) (cwV 2 hts gX10_factor_X3_become rfl rfl rfl (by decide +kernel) ⟨Nat.le_of_ble_eq_true rfl, Nat.le_of_ble_eq_true rfl⟩) hK hT hS ka20 (by decide) rfl rfl hl.1 rfl (Nat.le_of_ble_eq_true rfl) dX10_factor_85 ⟨Nat.zero_le _, Nat.zero_le _⟩ (fun u27 H locs hpu27 hT hS => ?_)
          obtain ⟨huu27, qu27⟩ := hpu27
          rw [huu27] at hT
          refine lv_aload_n hx hb dX10_factor_88 rfl (lv_at hl 0 rfl) ?_
          refine gf_10_6 hx hb hts hin10 hown hK hT k0 hfl52 dX10_factor_89 (fun a28 ka28 fva28 => ?_)
          refine lv_iload hx hb dX10_factor_92 (lv_at hl 5 rfl) ?_
          refine tw_Vl (q := (RX3, TX3, 2)) (As := [.int p5]) (rest := []) ⟨hx, hb, hml, hown, hts⟩ (c_X3_partOf l D cy κ G a28 ka28 p5) (cwV 1 hts gX10_factor_X3_partOf rfl rfl rfl (by decide +kernel) ⟨Nat.le_of_ble_eq_true rfl, Nat.le_of_ble_eq_true rfl⟩) hK hT hS ka28 (by decide) rfl rfl hl.1 rfl (Nat.le_of_ble_eq_true rfl) dX10_factor_94 ⟨Nat.zero_le _, Nat.zero_le _⟩ (fun y29 u30 H locs hpu30 hT hS => ?_)
          obtain ⟨huu30, qu30⟩ := hpu30
          rw [huu30] at hT
          exact hret H locs ls 97 y29 G dX10_factor_97 ⟨rfl, trivial⟩ hT hS
        · skip
          refine lv_ldc2 hx hb hown hkl148 dX10_factor_63 ?_
          exact hret H locs ls 66 (-9223372036854775808 : Int64) G dX10_factor_66 ⟨rfl, trivial⟩ hT hS
      · skip
        refine lv_ldc2 hx hb hown hkl148 dX10_factor_18 ?_
        exact hret H locs ls 21 (-9223372036854775808 : Int64) G dX10_factor_21 ⟨rfl, trivial⟩ hT hS
  exact main s.heap [] hT va_S.rf

abbrev rmX10_breaks : Room := { frames := 4, cells := 0, slots := 0, locals := 108 }
set_option maxHeartbeats 4000000 in
set_option maxRecDepth 100000 in
theorem c_X10_breaks (l : Launch) (D : va_G) (cy : Nat → ClassId) (κ : Nat → Nat) (G : Gh) (p0 : Nat) (k0 : κ p0 = 11) (p1 : Int32) (p2 : Int32) (p3 : Int32) (p4 : Int32) : Met l yX10_breaks wsX10_breaks rmX10_breaks (va_Pc [.ref p0, .int p1, .int p2, .int p3, .int p4] (fun U => WW D cy κ G U)) (va_Qi (fun (r : Int32) (u : Gh) => lowG u G ∧ (True)) (fun u t => WW D cy κ u t) (AA κ)) 0 0 (AA κ) := by
  refine Met.twi (cc := cX10_breaks) (maxL := 6) (by decide) rfl (Nat.le_of_ble_eq_true rfl) ?_
  intro p e s m args below meth c Q hx hb hml hown hts hK hT hret ls hl
  have hl : lv_has ls 6 [(0, .ref p0), (1, .int p1), (2, .int p2), (3, .int p3), (4, .int p4)] := hl
  have hfl45 := hts (.fieldLink RX10 45 "PlyPlates" "breaking" "LPlyPlates$Plate;") (by decide +kernel)
  have hin10 : ∀ w ∈ u_ws RX10 TX10 11, w ∈ wsX10_breaks := by decide +kernel
  have hfl19 := hts (.fieldLink RX10 19 "PlyPlates" "plates" "[LPlyPlates$Plate;") (by decide +kernel)
  have hfl40 := hts (.fieldLink RX10 40 "PlyPlates" "breakLog" "LPlyPlates$BreakLog;") (by decide +kernel)
  have hc0 : (0 : Int32).toInt = 0 := rfl
  have hfl217 := hts (.fieldLink RX10 217 "PlyPlates$BreakLog" "steps" "I") (by decide +kernel)
  have hin0 : ∀ w ∈ u_ws RX0 TX0 4, w ∈ wsX10_breaks := by decide +kernel
  have hc24 : (24 : Int32).toInt = 24 := rfl
  have hfl69 := hts (.fieldLink RX10 69 "PlyPlates" "flat" "LPlyPlates$Flat;") (by decide +kernel)
  have hfl197 := hts (.fieldLink RX10 197 "PlyPlates$Flat" "worstPlace" "I") (by decide +kernel)
  have hin2 : ∀ w ∈ u_ws RX2 TX2 13, w ∈ wsX10_breaks := by decide +kernel
  have hcm1 : (-1 : Int32).toInt = -1 := rfl
  have hfl52 := hts (.fieldLink RX10 52 "PlyPlates" "fraction" "LPlyPlates$Fraction;") (by decide +kernel)
  have hfl204 := hts (.fieldLink RX10 204 "PlyPlates$Flat" "worstStress" "J") (by decide +kernel)
  have hc1 : (1 : Int32).toInt = 1 := rfl
  have hcm2 : (-2 : Int32).toInt = -2 := rfl
  have main : ∀ (H : Heap) (locs : List Loc), TW D cy κ G H → va_S (AA κ) s.heap H locs → W p l e rmX10_breaks s m args below meth c H locs 0 0 Q (F0 m 0 ls []) := by
    intro H locs hT hS
    refine lv_aload_n hx hb dX10_breaks_0 rfl (lv_at hl 0 rfl) ?_
    refine lv_iload_n hx hb dX10_breaks_1 rfl (lv_at hl 1 rfl) ?_
    refine tw_Vi (q := (RX10, TX10, 11)) (As := [.int p1]) (rest := []) ⟨hx, hb, hml, hown, hts⟩ (c_X10_isPlate l D cy κ G p0 k0 p1) (cwV 1 hts gX10_breaks_X10_isPlate rfl rfl rfl (by decide +kernel) ⟨Nat.le_of_ble_eq_true rfl, Nat.le_of_ble_eq_true rfl⟩) hK hT hS k0 (by decide) rfl rfl hl.1 rfl (Nat.le_of_ble_eq_true rfl) dX10_breaks_2 ⟨Nat.zero_le _, Nat.zero_le _⟩ (fun x1 u2 H locs hpu2 hT hS => ?_)
    obtain ⟨huu2, qu2⟩ := hpu2
    rw [huu2] at hT
    refine tb_if_ne (tgt := 10) hx hb dX10_breaks_5 (by decide) (fun c3 => ?_) (fun c3 => ?_)
    · skip
      refine lv_iload_n hx hb dX10_breaks_10 rfl (lv_at hl 2 rfl) ?_
      refine lv_iload_n hx hb dX10_breaks_11 rfl (lv_at hl 3 rfl) ?_
      refine lv_iload hx hb dX10_breaks_12 (lv_at hl 4 rfl) ?_
      refine tw_Si (As := [.int p2, .int p3, .int p4]) (rest := []) ⟨hx, hb, hml, hown, hts⟩ (c_X10_isLoad l D cy κ G p2 p3 p4) (va_cwS 3 hts gX10_breaks_X10_isLoad rfl rfl rfl (by decide +kernel) ⟨Nat.le_of_ble_eq_true rfl, Nat.le_of_ble_eq_true rfl⟩) hK hT hS rfl hl.1 rfl (Nat.le_of_ble_eq_true rfl) dX10_breaks_14 ⟨Nat.zero_le _, Nat.zero_le _⟩ (fun x4 u5 H locs hpu5 hT hS => ?_)
      obtain ⟨huu5, qu5⟩ := hpu5
      rw [huu5] at hT
      refine tb_if_ne (tgt := 23) hx hb dX10_breaks_17 (by decide) (fun c6 => ?_) (fun c6 => ?_)
      · skip
        refine lv_aload_n hx hb dX10_breaks_23 rfl (lv_at hl 0 rfl) ?_
        refine gf_10_5 hx hb hts hin10 hown hK hT k0 hfl45 dX10_breaks_24 (fun a7 ka7 fva7 => ?_)
        refine lv_aload_n hx hb dX10_breaks_27 rfl (lv_at hl 0 rfl) ?_
        refine gf_10_1 hx hb hts hin10 hown hK hT k0 hfl19 dX10_breaks_28 (fun a8 ka8 fva8 => ?_)
        refine lv_iload_n hx hb dX10_breaks_31 rfl (lv_at hl 1 rfl) ?_
        refine tw_ra (K := 30) (t := 3) (ty := .object RX7) (n := 4) (P := fun b => κ b = 8) hx hb hK hT ka8 (by decide) rfl rfl rfl rfl (by omega) rfl dX10_breaks_32 (fun a9 ka9 fva9 => ?_)
        refine tw_Vv (q := (RX7, TX7, 2)) (As := [.ref a9]) (rest := []) ⟨hx, hb, hml, hown, hts⟩ (c_X7_copy l D cy κ G a7 ka7 a9 ka9) (cwV 1 hts gX10_breaks_X7_copy rfl rfl rfl (by decide +kernel) ⟨Nat.le_of_ble_eq_true rfl, Nat.le_of_ble_eq_true rfl⟩) hK hT hS ka7 (by decide) rfl rfl hl.1 rfl (Nat.le_of_ble_eq_true rfl) dX10_breaks_33 ⟨Nat.zero_le _, Nat.zero_le _⟩ (fun u11 H locs hpu11 hT hS => ?_)
        obtain ⟨qu11, ru11⟩ := hpu11
        refine lv_aload_n hx hb dX10_breaks_36 rfl (lv_at hl 0 rfl) ?_
        refine gf_10_4 hx hb hts hin10 hown hK hT k0 hfl40 dX10_breaks_37 (fun a12 ka12 fva12 => ?_)
        refine lv_iconst (v := (0 : Int32)) hx hb dX10_breaks_40 (by decide) ?_
        refine pg_0_3 hx hb hts hin0 hown hK hT hS ka12 hfl217 dX10_breaks_41 (by omega) (fun H locs hT hS => ?_)
        refine lv_iconst (v := (0 : Int32)) hx hb dX10_breaks_44 (by decide) ?_
        refine lv_istore (lv' := [(5, .int (0 : Int32)), (0, .ref p0), (1, .int p1), (2, .int p2), (3, .int p3), (4, .int p4)]) hx hb dX10_breaks_45 hl (by decide) rfl (fun ls hl => ?_)
        have L47 : ∀ (nn : Nat) (H : Heap) (locs : List Loc) (ls : Array Slot) (u13 : Gh) (x14 : Int32), (nn = (2147483647 - x14.toInt).toNat) → (lowG u13 G) → (TW D cy κ u13 H) → (va_S (AA κ) s.heap H locs) → (lv_has ls 6 [(5, .int x14), (0, .ref p0), (1, .int p1), (2, .int p2), (3, .int p3), (4, .int p4)]) → (0 ≤ x14.toInt ∧ x14.toInt ≤ 24) → W p l e rmX10_breaks s m args below meth c H locs 0 0 Q (F0 m 47 ls []) := by
          intro nn
          induction nn using Nat.strongRecOn with
          | _ nn ih47 =>
            intro H locs ls u13 x14 hnn lu13 hT hS hl fL47_0
            refine lv_iload hx hb dX10_breaks_47 (lv_at hl 0 rfl) ?_
            refine lv_bipush (v := (24 : Int32)) hx hb dX10_breaks_49 (by decide) ?_
            have J153 : ∀ (H : Heap) (locs : List Loc) (ls : Array Slot) (u15 : Gh) , (lowG u15 G) → (TW D cy κ u15 H) → (va_S (AA κ) s.heap H locs) → (lv_has ls 6 [(5, .int x14), (0, .ref p0), (1, .int p1), (2, .int p2), (3, .int p3), (4, .int p4)]) → W p l e rmX10_breaks s m args below meth c H locs 0 0 Q (F0 m 153 ls []) := by
              intro H locs ls u15 lu15 hT hS hl 
              refine lv_aload_n hx hb dX10_breaks_153 rfl (lv_at hl 1 rfl) ?_
              refine gf_10_4 hx hb hts hin10 hown hK hT k0 hfl40 dX10_breaks_154 (fun a16 ka16 fva16 => ?_)
              refine gf_0_3 hx hb hts hin0 hown hK hT ka16 hfl217 dX10_breaks_157 (fun x17 kx17 fvx17 => ?_)
              have gx17 := congrArg Int32.toInt kx17.1
              exact hret H locs ls 160 x17 u15 dX10_breaks_160 ⟨lu15, trivial⟩ hT hS
            refine tb_icmp_ge (tgt := 153) hx hb dX10_breaks_51 (by decide) (fun c18 => ?_) (fun c18 => ?_)
            · skip
              exact J153 H locs ls u13 lu13 hT hS (lv_sub hl [0, 1, 2, 3, 4, 5] rfl) 
            · skip
              refine lv_aload_n hx hb dX10_breaks_54 rfl (lv_at hl 1 rfl) ?_
              refine gf_10_7 hx hb hts hin10 hown hK hT k0 hfl69 dX10_breaks_55 (fun a19 ka19 fva19 => ?_)
              refine lv_aload_n hx hb dX10_breaks_58 rfl (lv_at hl 1 rfl) ?_
              refine gf_10_5 hx hb hts hin10 hown hK hT k0 hfl45 dX10_breaks_59 (fun a20 ka20 fva20 => ?_)
              refine tw_Vv (q := (RX2, TX2, 13)) (As := [.ref a20]) (rest := []) ⟨hx, hb, hml, hown, hts⟩ (c_X2_prepare l D cy κ u13 a19 ka19 a20 ka20) (cwV 1 hts gX10_breaks_X2_prepare rfl rfl rfl (by decide +kernel) ⟨Nat.le_of_ble_eq_true rfl, Nat.le_of_ble_eq_true rfl⟩) hK hT hS ka19 (by decide) rfl rfl hl.1 rfl (Nat.le_of_ble_eq_true rfl) dX10_breaks_62 ⟨Nat.zero_le _, Nat.zero_le _⟩ (fun u22 H locs hpu22 hT hS => ?_)
              obtain ⟨huu22, qu22⟩ := hpu22
              rw [huu22] at hT
              refine lv_aload_n hx hb dX10_breaks_65 rfl (lv_at hl 1 rfl) ?_
              refine gf_10_7 hx hb hts hin10 hown hK hT k0 hfl69 dX10_breaks_66 (fun a23 ka23 fva23 => ?_)
              refine lv_aload_n hx hb dX10_breaks_69 rfl (lv_at hl 1 rfl) ?_
              refine gf_10_5 hx hb hts hin10 hown hK hT k0 hfl45 dX10_breaks_70 (fun a24 ka24 fva24 => ?_)
              refine lv_iload_n hx hb dX10_breaks_73 rfl (lv_at hl 3 rfl) ?_
              refine lv_iload_n hx hb dX10_breaks_74 rfl (lv_at hl 4 rfl) ?_
              refine lv_iload hx hb dX10_breaks_75 (lv_at hl 5 rfl) ?_
              refine tw_Vv (q := (RX2, TX2, 13)) (As := [.ref a24, .int p2, .int p3, .int p4]) (rest := []) ⟨hx, hb, hml, hown, hts⟩ (c_X2_findWorst l D cy κ u13 a23 ka23 a24 ka24 p2 p3 p4) (cwV 4 hts gX10_breaks_X2_findWorst rfl rfl rfl (by decide +kernel) ⟨Nat.le_of_ble_eq_true rfl, Nat.le_of_ble_eq_true rfl⟩) hK hT hS ka23 (by decide) rfl rfl hl.1 rfl (Nat.le_of_ble_eq_true rfl) dX10_breaks_77 ⟨Nat.zero_le _, Nat.zero_le _⟩ (fun u26 H locs hpu26 hT hS => ?_)
              obtain ⟨huu26, qu26⟩ := hpu26
              rw [huu26] at hT
              refine lv_aload_n hx hb dX10_breaks_80 rfl (lv_at hl 1 rfl) ?_
              refine gf_10_7 hx hb hts hin10 hown hK hT k0 hfl69 dX10_breaks_81 (fun a27 ka27 fva27 => ?_)
              refine gf_2_10 hx hb hts hin2 hown hK hT ka27 hfl197 dX10_breaks_84 (fun x28 kx28 fvx28 => ?_)
              refine lv_iconst (v := (-1 : Int32)) hx hb dX10_breaks_87 (by decide) ?_
              refine tb_icmp_ne (tgt := 94) hx hb dX10_breaks_88 (by decide) (fun c29 => ?_) (fun c29 => ?_)
              · skip
                refine lv_aload_n hx hb dX10_breaks_94 rfl (lv_at hl 1 rfl) ?_
                refine gf_10_6 hx hb hts hin10 hown hK hT k0 hfl52 dX10_breaks_95 (fun a30 ka30 fva30 => ?_)
                refine lv_aload_n hx hb dX10_breaks_98 rfl (lv_at hl 1 rfl) ?_
                refine gf_10_7 hx hb hts hin10 hown hK hT k0 hfl69 dX10_breaks_99 (fun a31 ka31 fva31 => ?_)
                obtain rfl : a27 = a31 := eRef (FV.eq fva27 fva31)
                refine tw_Vl (q := (RX2, TX2, 13)) (As := []) (rest := [.ref a30]) ⟨hx, hb, hml, hown, hts⟩ (c_X2_worstLimit l D cy κ u13 a27 ka27) (cwV 0 hts gX10_breaks_X2_worstLimit rfl rfl rfl (by decide +kernel) ⟨Nat.le_of_ble_eq_true rfl, Nat.le_of_ble_eq_true rfl⟩) hK hT hS ka27 (by decide) rfl rfl hl.1 rfl (Nat.le_of_ble_eq_true rfl) dX10_breaks_102 ⟨Nat.zero_le _, Nat.zero_le _⟩ (fun y32 u33 H locs hpu33 hT hS => ?_)
                obtain ⟨huu33, qu33⟩ := hpu33
                rw [huu33] at hT
                refine lv_aload_n hx hb dX10_breaks_105 rfl (lv_at hl 1 rfl) ?_
                refine gf_10_7 hx hb hts hin10 hown hK hT k0 hfl69 dX10_breaks_106 (fun a34 ka34 fva34 => ?_)
                refine gf_2_11 hx hb hts hin2 hown hK hT ka34 hfl204 dX10_breaks_109 (fun y35 ky35 fvy35 => ?_)
                refine tw_Vv (q := (RX3, TX3, 2)) (As := [.long y32, .long y35]) (rest := []) ⟨hx, hb, hml, hown, hts⟩ (c_X3_become l D cy κ u13 a30 ka30 y32 y35) (cwV 2 hts gX10_breaks_X3_become rfl rfl rfl (by decide +kernel) ⟨Nat.le_of_ble_eq_true rfl, Nat.le_of_ble_eq_true rfl⟩) hK hT hS ka30 (by decide) rfl rfl hl.1 rfl (Nat.le_of_ble_eq_true rfl) dX10_breaks_112 ⟨Nat.zero_le _, Nat.zero_le _⟩ (fun u37 H locs hpu37 hT hS => ?_)
                obtain ⟨huu37, qu37⟩ := hpu37
                rw [huu37] at hT
                refine lv_aload_n hx hb dX10_breaks_115 rfl (lv_at hl 1 rfl) ?_
                refine gf_10_4 hx hb hts hin10 hown hK hT k0 hfl40 dX10_breaks_116 (fun a38 ka38 fva38 => ?_)
                refine lv_aload_n hx hb dX10_breaks_119 rfl (lv_at hl 1 rfl) ?_
                refine gf_10_7 hx hb hts hin10 hown hK hT k0 hfl69 dX10_breaks_120 (fun a39 ka39 fva39 => ?_)
                refine gf_2_10 hx hb hts hin2 hown hK hT ka39 hfl197 dX10_breaks_123 (fun x40 kx40 fvx40 => ?_)
                refine lv_aload_n hx hb dX10_breaks_126 rfl (lv_at hl 1 rfl) ?_
                refine gf_10_6 hx hb hts hin10 hown hK hT k0 hfl52 dX10_breaks_127 (fun a41 ka41 fva41 => ?_)
                refine tw_Vv (q := (RX0, TX0, 4)) (As := [.int x40, .ref a41]) (rest := []) ⟨hx, hb, hml, hown, hts⟩ (c_X0_note l D cy κ u13 a38 ka38 x40 a41 ka41) (cwV 2 hts gX10_breaks_X0_note rfl rfl rfl (by decide +kernel) ⟨Nat.le_of_ble_eq_true rfl, Nat.le_of_ble_eq_true rfl⟩) hK hT hS ka38 (by decide) rfl rfl hl.1 rfl (Nat.le_of_ble_eq_true rfl) dX10_breaks_130 ⟨Nat.zero_le _, Nat.zero_le _⟩ (fun u43 H locs hpu43 hT hS => ?_)
                obtain ⟨qu43, ru43⟩ := hpu43
                refine lv_aload_n hx hb dX10_breaks_133 rfl (lv_at hl 1 rfl) ?_
                refine gf_10_5 hx hb hts hin10 hown hK hT k0 hfl45 dX10_breaks_134 (fun a44 ka44 fva44 => ?_)
                refine lv_aload_n hx hb dX10_breaks_137 rfl (lv_at hl 1 rfl) ?_
                refine gf_10_7 hx hb hts hin10 hown hK hT k0 hfl69 dX10_breaks_138 (fun a45 ka45 fva45 => ?_)
                refine gf_2_10 hx hb hts hin2 hown hK hT ka45 hfl197 dX10_breaks_141 (fun x46 kx46 fvx46 => ?_)
                refine tw_Vv (q := (RX7, TX7, 2)) (As := [.int x46]) (rest := []) ⟨hx, hb, hml, hown, hts⟩ (c_X7_giveWay l D cy κ u43 a44 ka44 x46) (cwV 1 hts gX10_breaks_X7_giveWay rfl rfl rfl (by decide +kernel) ⟨Nat.le_of_ble_eq_true rfl, Nat.le_of_ble_eq_true rfl⟩) hK hT hS ka44 (by decide) rfl rfl hl.1 rfl (Nat.le_of_ble_eq_true rfl) dX10_breaks_144 ⟨Nat.zero_le _, Nat.zero_le _⟩ (fun u48 H locs hpu48 hT hS => ?_)
                obtain ⟨huu48, qu48⟩ := hpu48
                rw [huu48] at hT
                obtain ⟨x49, ex49⟩ : ∃ z : Int32, z = x14 + (1 : Int32) := ⟨_, rfl⟩
                refine lv_iinc (v := x49) (lv' := [(5, .int x49), (0, .ref p0), (1, .int p1), (2, .int p2), (3, .int p3), (4, .int p4)]) hx hb dX10_breaks_147 hl (k := 0) rfl (by rw [ex49]; rfl) (by decide) rfl (fun ls hl => ?_)
                have tx49 : x49.toInt = x14.toInt + 1 := by rw [ex49, ti_add (by have := i32b x14; have := i32b p1; have := i32b p2; have := i32b p3; have := i32b p4; omega), hc1]
                refine lv_goto (tgt := 47) hx hb dX10_breaks_150 (by decide) ?_
                exact ih47 ((2147483647 - x49.toInt).toNat) (by have := i32b x49; have := i32b p1; have := i32b p2; have := i32b p3; have := i32b p4; omega) H locs ls u43 x49 rfl (qu43.tr lu13) hT hS (lv_sub hl [0, 1, 2, 3, 4, 5] rfl) (by omega)
              · skip
                refine lv_goto (tgt := 153) hx hb dX10_breaks_91 (by decide) ?_
                exact J153 H locs ls u13 lu13 hT hS (lv_sub hl [0, 1, 2, 3, 4, 5] rfl) 
        exact L47 _ H locs ls (szG u11 a12 (0 : Int32)) (0 : Int32) rfl ((lowG.sz u11 a12 (0 : Int32)).tr (qu11.tr (lowG.rf G))) hT hS (lv_sub hl [0, 1, 2, 3, 4, 5] rfl) (by omega)
      · skip
        refine lv_bipush (v := (-2 : Int32)) hx hb dX10_breaks_20 (by decide) ?_
        exact hret H locs ls 22 (-2 : Int32) G dX10_breaks_22 ⟨(lowG.rf G), trivial⟩ hT hS
    · skip
      refine lv_iconst (v := (-1 : Int32)) hx hb dX10_breaks_8 (by decide) ?_
      exact hret H locs ls 9 (-1 : Int32) G dX10_breaks_9 ⟨(lowG.rf G), trivial⟩ hT hS
  exact main s.heap [] hT va_S.rf

abbrev rmX10_step : Room := { frames := 1, cells := 0, slots := 0, locals := 22 }
set_option maxHeartbeats 4000000 in
set_option maxRecDepth 100000 in
theorem c_X10_step (l : Launch) (D : va_G) (cy : Nat → ClassId) (κ : Nat → Nat) (G : Gh) (p0 : Nat) (k0 : κ p0 = 11) (p1 : Int32) (p2 : Int32) : Met l yX10_step wsX10_step rmX10_step (va_Pc [.ref p0, .int p1, .int p2] (fun U => WW D cy κ G U)) (va_Ql (fun (r : Int64) (u : Gh) => u = G ∧ (True)) (fun u t => WW D cy κ u t) (AA κ)) 0 0 (AA κ) := by
  refine Met.twl (cc := cX10_step) (maxL := 3) (by decide) rfl (Nat.le_of_ble_eq_true rfl) ?_
  intro p e s m args below meth c Q hx hb hml hown hts hK hT hret ls hl
  have hl : lv_has ls 3 [(0, .ref p0), (1, .int p1), (2, .int p2)] := hl
  have hc0 : (0 : Int32).toInt = 0 := rfl
  have hfl40 := hts (.fieldLink RX10 40 "PlyPlates" "breakLog" "LPlyPlates$BreakLog;") (by decide +kernel)
  have hin10 : ∀ w ∈ u_ws RX10 TX10 11, w ∈ wsX10_step := by decide +kernel
  have hfl217 := hts (.fieldLink RX10 217 "PlyPlates$BreakLog" "steps" "I") (by decide +kernel)
  have hin0 : ∀ w ∈ u_ws RX0 TX0 4, w ∈ wsX10_step := by decide +kernel
  have hc1 : (1 : Int32).toInt = 1 := rfl
  have hkl148 := hts (.constantLong RX10 148 (-9223372036854775808)) (by decide +kernel)
  have hlk148 : (-9223372036854775808 : Int64).toInt = -9223372036854775808 := rfl
  have hfl228 := hts (.fieldLink RX10 228 "PlyPlates$BreakLog" "places" "[I") (by decide +kernel)
  have hfl231 := hts (.fieldLink RX10 231 "PlyPlates$BreakLog" "above" "[J") (by decide +kernel)
  have hfl234 := hts (.fieldLink RX10 234 "PlyPlates$BreakLog" "below" "[J") (by decide +kernel)
  have main : ∀ (H : Heap) (locs : List Loc), TW D cy κ G H → va_S (AA κ) s.heap H locs → W p l e rmX10_step s m args below meth c H locs 0 0 Q (F0 m 0 ls []) := by
    intro H locs hT hS
    refine lv_iload_n hx hb dX10_step_0 rfl (lv_at hl 1 rfl) ?_
    refine lv_iconst (v := (0 : Int32)) hx hb dX10_step_1 (by decide) ?_
    refine lv_aload_n hx hb dX10_step_2 rfl (lv_at hl 0 rfl) ?_
    refine gf_10_4 hx hb hts hin10 hown hK hT k0 hfl40 dX10_step_3 (fun a1 ka1 fva1 => ?_)
    refine gf_0_3 hx hb hts hin0 hown hK hT ka1 hfl217 dX10_step_6 (fun x2 kx2 fvx2 => ?_)
    have gx2 := congrArg Int32.toInt kx2.1
    refine lv_iconst (v := (1 : Int32)) hx hb dX10_step_9 (by decide) ?_
    refine lv_isub hx hb dX10_step_10 ?_
    refine lv_topi (fun x3 ex3 => ?_)
    have tx3 : x3.toInt = x2.toInt - (1 : Int32).toInt := by rw [ex3]; exact ti_sub (by have := i32b x2; have := i32b (1 : Int32); omega)
    refine tw_Si (As := [.int p1, .int (0 : Int32), .int x3]) (rest := []) ⟨hx, hb, hml, hown, hts⟩ (c_X10_isWithin l D cy κ G p1 (0 : Int32) x3) (va_cwS 3 hts gX10_step_X10_isWithin rfl rfl rfl (by decide +kernel) ⟨Nat.le_of_ble_eq_true rfl, Nat.le_of_ble_eq_true rfl⟩) hK hT hS rfl hl.1 rfl (Nat.le_of_ble_eq_true rfl) dX10_step_11 ⟨Nat.zero_le _, Nat.zero_le _⟩ (fun x4 u5 H locs hpu5 hT hS => ?_)
    obtain ⟨huu5, qu5⟩ := hpu5
    rw [huu5] at hT
    refine tb_if_ne (tgt := 21) hx hb dX10_step_14 (by decide) (fun c6 => ?_) (fun c6 => ?_)
    · skip
      refine lv_iload_n hx hb dX10_step_21 rfl (lv_at hl 2 rfl) ?_
      rcases (show p2.toInt < 0 ∨ 2 < p2.toInt ∨ p2.toInt = 0 ∨ p2.toInt = 1 ∨ p2.toInt = 2 by omega) with c7 | c7 | c7 | c7 | c7
      · refine lv_tableOut (tgt := 79) hx hb dX10_step_22 (Or.inl c7) (by decide) ?_
        refine lv_ldc2 hx hb hown hkl148 dX10_step_79 ?_
        exact hret H locs ls 82 (-9223372036854775808 : Int64) G dX10_step_82 ⟨rfl, trivial⟩ hT hS
      · refine lv_tableOut (tgt := 79) hx hb dX10_step_22 (Or.inr c7) (by decide) ?_
        refine lv_ldc2 hx hb hown hkl148 dX10_step_79 ?_
        exact hret H locs ls 82 (-9223372036854775808 : Int64) G dX10_step_82 ⟨rfl, trivial⟩ hT hS
      · refine lv_tableIn (off := 26) (tgt := 48) hx hb dX10_step_22 (by omega) (by omega) (by rw [c7]; rfl) (by decide) ?_
        refine lv_aload_n hx hb dX10_step_48 rfl (lv_at hl 0 rfl) ?_
        refine gf_10_4 hx hb hts hin10 hown hK hT k0 hfl40 dX10_step_49 (fun a8 ka8 fva8 => ?_)
        refine gf_0_0 hx hb hts hin0 hown hK hT ka8 hfl228 dX10_step_52 (fun a9 ka9 fva9 => ?_)
        refine lv_iload_n hx hb dX10_step_55 rfl (lv_at hl 1 rfl) ?_
        refine tw_ia (K := 1024) (n := 24) (P := fun _ => True) hx hb hK hT ka9 (by decide) rfl rfl (by omega) rfl dX10_step_56 (fun x10 _ fvx10 => ?_)
        refine lv_i2l hx hb dX10_step_57 rfl ?_
        refine lv_topl (fun y11 ey11 => ?_)
        have ty11 : y11.toInt = x10.toInt := by rw [ey11]; exact Int32.toInt_toInt64 x10
        exact hret H locs ls 58 y11 G dX10_step_58 ⟨rfl, trivial⟩ hT hS
      · refine lv_tableIn (off := 37) (tgt := 59) hx hb dX10_step_22 (by omega) (by omega) (by rw [c7]; rfl) (by decide) ?_
        refine lv_aload_n hx hb dX10_step_59 rfl (lv_at hl 0 rfl) ?_
        refine gf_10_4 hx hb hts hin10 hown hK hT k0 hfl40 dX10_step_60 (fun a12 ka12 fva12 => ?_)
        refine gf_0_1 hx hb hts hin0 hown hK hT ka12 hfl231 dX10_step_63 (fun a13 ka13 fva13 => ?_)
        refine lv_iload_n hx hb dX10_step_66 rfl (lv_at hl 1 rfl) ?_
        refine tw_la (K := 2024) (n := 24) (P := fun _ => True) hx hb hK hT ka13 (by decide) rfl rfl (by omega) rfl dX10_step_67 (fun y14 _ fvy14 => ?_)
        exact hret H locs ls 68 y14 G dX10_step_68 ⟨rfl, trivial⟩ hT hS
      · refine lv_tableIn (off := 47) (tgt := 69) hx hb dX10_step_22 (by omega) (by omega) (by rw [c7]; rfl) (by decide) ?_
        refine lv_aload_n hx hb dX10_step_69 rfl (lv_at hl 0 rfl) ?_
        refine gf_10_4 hx hb hts hin10 hown hK hT k0 hfl40 dX10_step_70 (fun a15 ka15 fva15 => ?_)
        refine gf_0_2 hx hb hts hin0 hown hK hT ka15 hfl234 dX10_step_73 (fun a16 ka16 fva16 => ?_)
        refine lv_iload_n hx hb dX10_step_76 rfl (lv_at hl 1 rfl) ?_
        refine tw_la (K := 2024) (n := 24) (P := fun _ => True) hx hb hK hT ka16 (by decide) rfl rfl (by omega) rfl dX10_step_77 (fun y17 _ fvy17 => ?_)
        exact hret H locs ls 78 y17 G dX10_step_78 ⟨rfl, trivial⟩ hT hS
    · skip
      refine lv_ldc2 hx hb hown hkl148 dX10_step_17 ?_
      exact hret H locs ls 20 (-9223372036854775808 : Int64) G dX10_step_20 ⟨rfl, trivial⟩ hT hS
  exact main s.heap [] hT va_S.rf

abbrev rmX10_last : Room := { frames := 2, cells := 0, slots := 0, locals := 58 }
set_option maxHeartbeats 4000000 in
set_option maxRecDepth 100000 in
theorem c_X10_last (l : Launch) (D : va_G) (cy : Nat → ClassId) (κ : Nat → Nat) (G : Gh) (p0 : Nat) (k0 : κ p0 = 11) : Met l yX10_last wsX10_last rmX10_last (va_Pc [.ref p0] (fun U => WW D cy κ G U)) (va_Qi (fun (r : Int32) (u : Gh) => u = G ∧ (True)) (fun u t => WW D cy κ u t) (AA κ)) 0 0 (AA κ) := by
  refine Met.twi (cc := cX10_last) (maxL := 1) (by decide) rfl (Nat.le_of_ble_eq_true rfl) ?_
  intro p e s m args below meth c Q hx hb hml hown hts hK hT hret ls hl
  have hl : lv_has ls 1 [(0, .ref p0)] := hl
  have hfl40 := hts (.fieldLink RX10 40 "PlyPlates" "breakLog" "LPlyPlates$BreakLog;") (by decide +kernel)
  have hin10 : ∀ w ∈ u_ws RX10 TX10 11, w ∈ wsX10_last := by decide +kernel
  have main : ∀ (H : Heap) (locs : List Loc), TW D cy κ G H → va_S (AA κ) s.heap H locs → W p l e rmX10_last s m args below meth c H locs 0 0 Q (F0 m 0 ls []) := by
    intro H locs hT hS
    refine lv_aload_n hx hb dX10_last_0 rfl (lv_at hl 0 rfl) ?_
    refine gf_10_4 hx hb hts hin10 hown hK hT k0 hfl40 dX10_last_1 (fun a1 ka1 fva1 => ?_)
    refine tw_Vi (q := (RX0, TX0, 4)) (As := []) (rest := []) ⟨hx, hb, hml, hown, hts⟩ (c_X0_greatest l D cy κ G a1 ka1) (cwV 0 hts gX10_last_X0_greatest rfl rfl rfl (by decide +kernel) ⟨Nat.le_of_ble_eq_true rfl, Nat.le_of_ble_eq_true rfl⟩) hK hT hS ka1 (by decide) rfl rfl hl.1 rfl (Nat.le_of_ble_eq_true rfl) dX10_last_4 ⟨Nat.zero_le _, Nat.zero_le _⟩ (fun x2 u3 H locs hpu3 hT hS => ?_)
    obtain ⟨huu3, qu3⟩ := hpu3
    rw [huu3] at hT
    exact hret H locs ls 7 x2 G dX10_last_7 ⟨rfl, trivial⟩ hT hS
  exact main s.heap [] hT va_S.rf

abbrev rmX10_rules : Room := { frames := 1, cells := 0, slots := 0, locals := 22 }
set_option maxHeartbeats 4000000 in
set_option maxRecDepth 100000 in
theorem c_X10_rules (l : Launch) (D : va_G) (cy : Nat → ClassId) (κ : Nat → Nat) (G : Gh) (p0 : Nat) (k0 : κ p0 = 11) (p1 : Int32) (p2 : Int32) (p3 : Int32) : Met l yX10_rules wsX10_rules rmX10_rules (va_Pc [.ref p0, .int p1, .int p2, .int p3] (fun U => WW D cy κ G U)) (va_Qi (fun (r : Int32) (u : Gh) => u = G ∧ (True)) (fun u t => WW D cy κ u t) (AA κ)) 0 0 (AA κ) := by
  refine Met.twi (cc := cX10_rules) (maxL := 4) (by decide) rfl (Nat.le_of_ble_eq_true rfl) ?_
  intro p e s m args below meth c Q hx hb hml hown hts hK hT hret ls hl
  have hl : lv_has ls 4 [(0, .ref p0), (1, .int p1), (2, .int p2), (3, .int p3)] := hl
  have hc1 : (1 : Int32).toInt = 1 := rfl
  have hc12 : (12 : Int32).toInt = 12 := rfl
  have hcm2 : (-2 : Int32).toInt = -2 := rfl
  have hc0 : (0 : Int32).toInt = 0 := rfl
  have hc3 : (3 : Int32).toInt = 3 := rfl
  have hfl33 := hts (.fieldLink RX10 33 "PlyPlates" "layRules" "LPlyPlates$LayRules;") (by decide +kernel)
  have hin10 : ∀ w ∈ u_ws RX10 TX10 11, w ∈ wsX10_rules := by decide +kernel
  have hfl240 := hts (.fieldLink RX10 240 "PlyPlates$LayRules" "mostRun" "I") (by decide +kernel)
  have hin4 : ∀ w ∈ u_ws RX4 TX4 3, w ∈ wsX10_rules := by decide +kernel
  have hfl243 := hts (.fieldLink RX10 243 "PlyPlates$LayRules" "isStepRuled" "Z") (by decide +kernel)
  have hfl247 := hts (.fieldLink RX10 247 "PlyPlates$LayRules" "leastEach" "I") (by decide +kernel)
  have main : ∀ (H : Heap) (locs : List Loc), TW D cy κ G H → va_S (AA κ) s.heap H locs → W p l e rmX10_rules s m args below meth c H locs 0 0 Q (F0 m 0 ls []) := by
    intro H locs hT hS
    refine lv_iload_n hx hb dX10_rules_0 rfl (lv_at hl 1 rfl) ?_
    refine lv_iconst (v := (1 : Int32)) hx hb dX10_rules_1 (by decide) ?_
    refine lv_bipush (v := (12 : Int32)) hx hb dX10_rules_2 (by decide) ?_
    refine tw_Si (As := [.int p1, .int (1 : Int32), .int (12 : Int32)]) (rest := []) ⟨hx, hb, hml, hown, hts⟩ (c_X10_isWithin l D cy κ G p1 (1 : Int32) (12 : Int32)) (va_cwS 3 hts gX10_rules_X10_isWithin rfl rfl rfl (by decide +kernel) ⟨Nat.le_of_ble_eq_true rfl, Nat.le_of_ble_eq_true rfl⟩) hK hT hS rfl hl.1 rfl (Nat.le_of_ble_eq_true rfl) dX10_rules_4 ⟨Nat.zero_le _, Nat.zero_le _⟩ (fun x1 u2 H locs hpu2 hT hS => ?_)
    obtain ⟨huu2, qu2⟩ := hpu2
    rw [huu2] at hT
    refine tb_if_eq (tgt := 19) hx hb dX10_rules_7 (by decide) (fun c3 => ?_) (fun c3 => ?_)
    · skip
      refine lv_bipush (v := (-2 : Int32)) hx hb dX10_rules_19 (by decide) ?_
      exact hret H locs ls 21 (-2 : Int32) G dX10_rules_21 ⟨rfl, trivial⟩ hT hS
    · skip
      refine lv_iload_n hx hb dX10_rules_10 rfl (lv_at hl 3 rfl) ?_
      refine lv_iconst (v := (0 : Int32)) hx hb dX10_rules_11 (by decide) ?_
      refine lv_iconst (v := (3 : Int32)) hx hb dX10_rules_12 (by decide) ?_
      refine tw_Si (As := [.int p3, .int (0 : Int32), .int (3 : Int32)]) (rest := []) ⟨hx, hb, hml, hown, hts⟩ (c_X10_isWithin l D cy κ G p3 (0 : Int32) (3 : Int32)) (va_cwS 3 hts gX10_rules_X10_isWithin rfl rfl rfl (by decide +kernel) ⟨Nat.le_of_ble_eq_true rfl, Nat.le_of_ble_eq_true rfl⟩) hK hT hS rfl hl.1 rfl (Nat.le_of_ble_eq_true rfl) dX10_rules_13 ⟨Nat.zero_le _, Nat.zero_le _⟩ (fun x4 u5 H locs hpu5 hT hS => ?_)
      obtain ⟨huu5, qu5⟩ := hpu5
      rw [huu5] at hT
      refine tb_if_ne (tgt := 22) hx hb dX10_rules_16 (by decide) (fun c6 => ?_) (fun c6 => ?_)
      · skip
        refine lv_aload_n hx hb dX10_rules_22 rfl (lv_at hl 0 rfl) ?_
        refine gf_10_3 hx hb hts hin10 hown hK hT k0 hfl33 dX10_rules_23 (fun a7 ka7 fva7 => ?_)
        refine lv_iload_n hx hb dX10_rules_26 rfl (lv_at hl 1 rfl) ?_
        refine pf_4_0 hx hb hts hin4 hown hK hT hS ka7 hfl240 dX10_rules_27 (fun H locs hT hS => ?_)
        refine lv_aload_n hx hb dX10_rules_30 rfl (lv_at hl 0 rfl) ?_
        refine gf_10_3 hx hb hts hin10 hown hK hT k0 hfl33 dX10_rules_31 (fun a8 ka8 fva8 => ?_)
        refine lv_iload_n hx hb dX10_rules_34 rfl (lv_at hl 2 rfl) ?_
        refine lv_iconst (v := (1 : Int32)) hx hb dX10_rules_35 (by decide) ?_
        have J44 : ∀ (H : Heap) (locs : List Loc) (ls : Array Slot) (x9 : Int32), (TW D cy κ G H) → (va_S (AA κ) s.heap H locs) → (lv_has ls 4 [(0, .ref p0), (1, .int p1), (2, .int p2), (3, .int p3)]) → (0 ≤ x9.toInt ∧ x9.toInt ≤ 1) → W p l e rmX10_rules s m args below meth c H locs 0 0 Q (F0 m 44 ls [.int x9, .ref a8]) := by
          intro H locs ls x9 hT hS hl fJ44_0
          refine pf_4_1 hx hb hts hin4 hown hK hT hS ka8 hfl243 dX10_rules_44 (zro (by omega)) (fun H locs hT hS => ?_)
          refine lv_aload_n hx hb dX10_rules_47 rfl (lv_at hl 0 rfl) ?_
          refine gf_10_3 hx hb hts hin10 hown hK hT k0 hfl33 dX10_rules_48 (fun a10 ka10 fva10 => ?_)
          refine lv_iload_n hx hb dX10_rules_51 rfl (lv_at hl 3 rfl) ?_
          refine pf_4_2 hx hb hts hin4 hown hK hT hS ka10 hfl247 dX10_rules_52 (fun H locs hT hS => ?_)
          refine lv_iconst (v := (0 : Int32)) hx hb dX10_rules_55 (by decide) ?_
          exact hret H locs ls 56 (0 : Int32) G dX10_rules_56 ⟨rfl, trivial⟩ hT hS
        refine tb_icmp_ne (tgt := 43) hx hb dX10_rules_36 (by decide) (fun c11 => ?_) (fun c11 => ?_)
        · skip
          refine lv_iconst (v := (0 : Int32)) hx hb dX10_rules_43 (by decide) ?_
          exact J44 H locs ls (0 : Int32) hT hS (lv_sub hl [0, 1, 2, 3] rfl) (by omega)
        · skip
          refine lv_iconst (v := (1 : Int32)) hx hb dX10_rules_39 (by decide) ?_
          refine lv_goto (tgt := 44) hx hb dX10_rules_40 (by decide) ?_
          exact J44 H locs ls (1 : Int32) hT hS (lv_sub hl [0, 1, 2, 3] rfl) (by omega)
      · skip
        refine lv_bipush (v := (-2 : Int32)) hx hb dX10_rules_19 (by decide) ?_
        exact hret H locs ls 21 (-2 : Int32) G dX10_rules_21 ⟨rfl, trivial⟩ hT hS
  exact main s.heap [] hT va_S.rf

abbrev rmX10_rule : Room := { frames := 2, cells := 0, slots := 0, locals := 45 }
set_option maxHeartbeats 4000000 in
set_option maxRecDepth 100000 in
theorem c_X10_rule (l : Launch) (D : va_G) (cy : Nat → ClassId) (κ : Nat → Nat) (G : Gh) (p0 : Nat) (k0 : κ p0 = 11) (p1 : Int32) : Met l yX10_rule wsX10_rule rmX10_rule (va_Pc [.ref p0, .int p1] (fun U => WW D cy κ G U)) (va_Qi (fun (r : Int32) (u : Gh) => u = G ∧ (True)) (fun u t => WW D cy κ u t) (AA κ)) 0 0 (AA κ) := by
  refine Met.twi (cc := cX10_rule) (maxL := 2) (by decide) rfl (Nat.le_of_ble_eq_true rfl) ?_
  intro p e s m args below meth c Q hx hb hml hown hts hK hT hret ls hl
  have hl : lv_has ls 2 [(0, .ref p0), (1, .int p1)] := hl
  have hcm1 : (-1 : Int32).toInt = -1 := rfl
  have hfl33 := hts (.fieldLink RX10 33 "PlyPlates" "layRules" "LPlyPlates$LayRules;") (by decide +kernel)
  have hin10 : ∀ w ∈ u_ws RX10 TX10 11, w ∈ wsX10_rule := by decide +kernel
  have hfl19 := hts (.fieldLink RX10 19 "PlyPlates" "plates" "[LPlyPlates$Plate;") (by decide +kernel)
  have main : ∀ (H : Heap) (locs : List Loc), TW D cy κ G H → va_S (AA κ) s.heap H locs → W p l e rmX10_rule s m args below meth c H locs 0 0 Q (F0 m 0 ls []) := by
    intro H locs hT hS
    refine lv_aload_n hx hb dX10_rule_0 rfl (lv_at hl 0 rfl) ?_
    refine lv_iload_n hx hb dX10_rule_1 rfl (lv_at hl 1 rfl) ?_
    refine tw_Vi (q := (RX10, TX10, 11)) (As := [.int p1]) (rest := []) ⟨hx, hb, hml, hown, hts⟩ (c_X10_isPlate l D cy κ G p0 k0 p1) (cwV 1 hts gX10_rule_X10_isPlate rfl rfl rfl (by decide +kernel) ⟨Nat.le_of_ble_eq_true rfl, Nat.le_of_ble_eq_true rfl⟩) hK hT hS k0 (by decide) rfl rfl hl.1 rfl (Nat.le_of_ble_eq_true rfl) dX10_rule_2 ⟨Nat.zero_le _, Nat.zero_le _⟩ (fun x1 u2 H locs hpu2 hT hS => ?_)
    obtain ⟨huu2, qu2⟩ := hpu2
    rw [huu2] at hT
    refine tb_if_eq (tgt := 24) hx hb dX10_rule_5 (by decide) (fun c3 => ?_) (fun c3 => ?_)
    · skip
      refine lv_iconst (v := (-1 : Int32)) hx hb dX10_rule_24 (by decide) ?_
      exact hret H locs ls 25 (-1 : Int32) G dX10_rule_25 ⟨rfl, trivial⟩ hT hS
    · skip
      refine lv_aload_n hx hb dX10_rule_8 rfl (lv_at hl 0 rfl) ?_
      refine gf_10_3 hx hb hts hin10 hown hK hT k0 hfl33 dX10_rule_9 (fun a4 ka4 fva4 => ?_)
      refine lv_aload_n hx hb dX10_rule_12 rfl (lv_at hl 0 rfl) ?_
      refine gf_10_1 hx hb hts hin10 hown hK hT k0 hfl19 dX10_rule_13 (fun a5 ka5 fva5 => ?_)
      refine lv_iload_n hx hb dX10_rule_16 rfl (lv_at hl 1 rfl) ?_
      refine tw_ra (K := 30) (t := 3) (ty := .object RX7) (n := 4) (P := fun b => κ b = 8) hx hb hK hT ka5 (by decide) rfl rfl rfl rfl (by omega) rfl dX10_rule_17 (fun a6 ka6 fva6 => ?_)
      refine tw_Vi (q := (RX4, TX4, 3)) (As := [.ref a6]) (rest := []) ⟨hx, hb, hml, hown, hts⟩ (c_X4_firstUnkept l D cy κ G a4 ka4 a6 ka6) (cwV 1 hts gX10_rule_X4_firstUnkept rfl rfl rfl (by decide +kernel) ⟨Nat.le_of_ble_eq_true rfl, Nat.le_of_ble_eq_true rfl⟩) hK hT hS ka4 (by decide) rfl rfl hl.1 rfl (Nat.le_of_ble_eq_true rfl) dX10_rule_18 ⟨Nat.zero_le _, Nat.zero_le _⟩ (fun x7 u8 H locs hpu8 hT hS => ?_)
      obtain ⟨huu8, qu8⟩ := hpu8
      rw [huu8] at hT
      refine lv_goto (tgt := 25) hx hb dX10_rule_21 (by decide) ?_
      exact hret H locs ls 25 x7 G dX10_rule_25 ⟨rfl, trivial⟩ hT hS
  exact main s.heap [] hT va_S.rf

abbrev rmX10_fewest : Room := { frames := 7, cells := 0, slots := 0, locals := 179 }
set_option maxHeartbeats 4000000 in
set_option maxRecDepth 100000 in
theorem c_X10_fewest (l : Launch) (D : va_G) (cy : Nat → ClassId) (κ : Nat → Nat) (G : Gh) (p0 : Nat) (k0 : κ p0 = 11) (p1 : Int32) (p2 : Int32) : Met l yX10_fewest wsX10_fewest rmX10_fewest (va_Pc [.ref p0, .int p1, .int p2] (fun U => WW D cy κ G U)) (va_Qi (fun (r : Int32) (u : Gh) => lowG u G ∧ (True)) (fun u t => WW D cy κ u t) (AA κ)) 0 0 (AA κ) := by
  refine Met.twi (cc := cX10_fewest) (maxL := 3) (by decide) rfl (Nat.le_of_ble_eq_true rfl) ?_
  intro p e s m args below meth c Q hx hb hml hown hts hK hT hret ls hl
  have hl : lv_has ls 3 [(0, .ref p0), (1, .int p1), (2, .int p2)] := hl
  have hcm1 : (-1 : Int32).toInt = -1 := rfl
  have hfl78 := hts (.fieldLink RX10 78 "PlyPlates" "search" "LPlyPlates$Search;") (by decide +kernel)
  have hin10 : ∀ w ∈ u_ws RX10 TX10 11, w ∈ wsX10_fewest := by decide +kernel
  have hfl19 := hts (.fieldLink RX10 19 "PlyPlates" "plates" "[LPlyPlates$Plate;") (by decide +kernel)
  have hfl259 := hts (.fieldLink RX10 259 "PlyPlates$Search" "tried" "LPlyPlates$Plate;") (by decide +kernel)
  have hin8 : ∀ w ∈ u_ws RX8 TX8 7, w ∈ wsX10_fewest := by decide +kernel
  have hfl119 := hts (.fieldLink RX10 119 "PlyPlates$Plate" "size" "I") (by decide +kernel)
  have hin7 : ∀ w ∈ u_ws RX7 TX7 2, w ∈ wsX10_fewest := by decide +kernel
  have hcm3 : (-3 : Int32).toInt = -3 := rfl
  have main : ∀ (H : Heap) (locs : List Loc), TW D cy κ G H → va_S (AA κ) s.heap H locs → W p l e rmX10_fewest s m args below meth c H locs 0 0 Q (F0 m 0 ls []) := by
    intro H locs hT hS
    refine lv_aload_n hx hb dX10_fewest_0 rfl (lv_at hl 0 rfl) ?_
    refine lv_iload_n hx hb dX10_fewest_1 rfl (lv_at hl 1 rfl) ?_
    refine tw_Vi (q := (RX10, TX10, 11)) (As := [.int p1]) (rest := []) ⟨hx, hb, hml, hown, hts⟩ (c_X10_isPlate l D cy κ G p0 k0 p1) (cwV 1 hts gX10_fewest_X10_isPlate rfl rfl rfl (by decide +kernel) ⟨Nat.le_of_ble_eq_true rfl, Nat.le_of_ble_eq_true rfl⟩) hK hT hS k0 (by decide) rfl rfl hl.1 rfl (Nat.le_of_ble_eq_true rfl) dX10_fewest_2 ⟨Nat.zero_le _, Nat.zero_le _⟩ (fun x1 u2 H locs hpu2 hT hS => ?_)
    obtain ⟨huu2, qu2⟩ := hpu2
    rw [huu2] at hT
    refine tb_if_eq (tgt := 16) hx hb dX10_fewest_5 (by decide) (fun c3 => ?_) (fun c3 => ?_)
    · skip
      refine lv_iconst (v := (-1 : Int32)) hx hb dX10_fewest_16 (by decide) ?_
      exact hret H locs ls 17 (-1 : Int32) G dX10_fewest_17 ⟨(lowG.rf G), trivial⟩ hT hS
    · skip
      refine lv_aload_n hx hb dX10_fewest_8 rfl (lv_at hl 0 rfl) ?_
      refine lv_iload_n hx hb dX10_fewest_9 rfl (lv_at hl 2 rfl) ?_
      refine tw_Vi (q := (RX10, TX10, 11)) (As := [.int p2]) (rest := []) ⟨hx, hb, hml, hown, hts⟩ (c_X10_isStuff l D cy κ G p0 k0 p2) (cwV 1 hts gX10_fewest_X10_isStuff rfl rfl rfl (by decide +kernel) ⟨Nat.le_of_ble_eq_true rfl, Nat.le_of_ble_eq_true rfl⟩) hK hT hS k0 (by decide) rfl rfl hl.1 rfl (Nat.le_of_ble_eq_true rfl) dX10_fewest_10 ⟨Nat.zero_le _, Nat.zero_le _⟩ (fun x4 u5 H locs hpu5 hT hS => ?_)
      obtain ⟨huu5, qu5⟩ := hpu5
      rw [huu5] at hT
      refine tb_if_ne (tgt := 18) hx hb dX10_fewest_13 (by decide) (fun c6 => ?_) (fun c6 => ?_)
      · skip
        refine lv_aload_n hx hb dX10_fewest_18 rfl (lv_at hl 0 rfl) ?_
        refine gf_10_8 hx hb hts hin10 hown hK hT k0 hfl78 dX10_fewest_19 (fun a7 ka7 fva7 => ?_)
        refine lv_iload_n hx hb dX10_fewest_22 rfl (lv_at hl 2 rfl) ?_
        refine tw_Vi (q := (RX8, TX8, 7)) (As := [.int p2]) (rest := []) ⟨hx, hb, hml, hown, hts⟩ (c_X8_find l D cy κ G a7 ka7 p2 (by omega)) (cwV 1 hts gX10_fewest_X8_find rfl rfl rfl (by decide +kernel) ⟨Nat.le_of_ble_eq_true rfl, Nat.le_of_ble_eq_true rfl⟩) hK hT hS ka7 (by decide) rfl rfl hl.1 rfl (Nat.le_of_ble_eq_true rfl) dX10_fewest_23 ⟨Nat.zero_le _, Nat.zero_le _⟩ (fun x8 u9 H locs hpu9 hT hS => ?_)
        obtain ⟨qu9, ru9⟩ := hpu9
        refine tb_if_ne (tgt := 32) hx hb dX10_fewest_26 (by decide) (fun c10 => ?_) (fun c10 => ?_)
        · skip
          refine lv_aload_n hx hb dX10_fewest_32 rfl (lv_at hl 0 rfl) ?_
          refine gf_10_1 hx hb hts hin10 hown hK hT k0 hfl19 dX10_fewest_33 (fun a11 ka11 fva11 => ?_)
          refine lv_iload_n hx hb dX10_fewest_36 rfl (lv_at hl 1 rfl) ?_
          refine tw_ra (K := 30) (t := 3) (ty := .object RX7) (n := 4) (P := fun b => κ b = 8) hx hb hK hT ka11 (by decide) rfl rfl rfl rfl (by omega) rfl dX10_fewest_37 (fun a12 ka12 fva12 => ?_)
          refine lv_aload_n hx hb dX10_fewest_38 rfl (lv_at hl 0 rfl) ?_
          refine gf_10_8 hx hb hts hin10 hown hK hT k0 hfl78 dX10_fewest_39 (fun a13 ka13 fva13 => ?_)
          refine gf_8_3 hx hb hts hin8 hown hK hT ka13 hfl259 dX10_fewest_42 (fun a14 ka14 fva14 => ?_)
          refine tw_Vv (q := (RX7, TX7, 2)) (As := [.ref a14]) (rest := []) ⟨hx, hb, hml, hown, hts⟩ (c_X7_copy l D cy κ u9 a12 ka12 a14 ka14) (cwV 1 hts gX10_fewest_X7_copy rfl rfl rfl (by decide +kernel) ⟨Nat.le_of_ble_eq_true rfl, Nat.le_of_ble_eq_true rfl⟩) hK hT hS ka12 (by decide) rfl rfl hl.1 rfl (Nat.le_of_ble_eq_true rfl) dX10_fewest_45 ⟨Nat.zero_le _, Nat.zero_le _⟩ (fun u16 H locs hpu16 hT hS => ?_)
          obtain ⟨qu16, ru16⟩ := hpu16
          refine lv_aload_n hx hb dX10_fewest_48 rfl (lv_at hl 0 rfl) ?_
          refine gf_10_1 hx hb hts hin10 hown hK hT k0 hfl19 dX10_fewest_49 (fun a17 ka17 fva17 => ?_)
          refine lv_iload_n hx hb dX10_fewest_52 rfl (lv_at hl 1 rfl) ?_
          refine tw_ra (K := 30) (t := 3) (ty := .object RX7) (n := 4) (P := fun b => κ b = 8) hx hb hK hT ka17 (by decide) rfl rfl rfl rfl (by omega) rfl dX10_fewest_53 (fun a18 ka18 fva18 => ?_)
          refine gf_7_1 hx hb hts hin7 hown hK hT ka18 hfl119 dX10_fewest_54 (fun x19 kx19 fvx19 => ?_)
          have gx19 := congrArg Int32.toInt kx19.1
          exact hret H locs ls 57 x19 u16 dX10_fewest_57 ⟨(qu16.tr (qu9.tr (lowG.rf G))), trivial⟩ hT hS
        · skip
          refine lv_bipush (v := (-3 : Int32)) hx hb dX10_fewest_29 (by decide) ?_
          exact hret H locs ls 31 (-3 : Int32) u9 dX10_fewest_31 ⟨(qu9.tr (lowG.rf G)), trivial⟩ hT hS
      · skip
        refine lv_iconst (v := (-1 : Int32)) hx hb dX10_fewest_16 (by decide) ?_
        exact hret H locs ls 17 (-1 : Int32) G dX10_fewest_17 ⟨(lowG.rf G), trivial⟩ hT hS
  exact main s.heap [] hT va_S.rf

abbrev rmX10_comes : Room := { frames := 2, cells := 0, slots := 0, locals := 45 }
set_option maxHeartbeats 4000000 in
set_option maxRecDepth 100000 in
theorem c_X10_comes (l : Launch) (D : va_G) (cy : Nat → ClassId) (κ : Nat → Nat) (G : Gh) (p0 : Nat) (k0 : κ p0 = 11) (p1 : Int32) (p2 : Int32) : Met l yX10_comes wsX10_comes rmX10_comes (va_Pc [.ref p0, .int p1, .int p2] (fun U => WW D cy κ G U)) (va_Qi (fun (r : Int32) (u : Gh) => u = G ∧ (True)) (fun u t => WW D cy κ u t) (AA κ)) 0 0 (AA κ) := by
  refine Met.twi (cc := cX10_comes) (maxL := 3) (by decide) rfl (Nat.le_of_ble_eq_true rfl) ?_
  intro p e s m args below meth c Q hx hb hml hown hts hK hT hret ls hl
  have hl : lv_has ls 3 [(0, .ref p0), (1, .int p1), (2, .int p2)] := hl
  have hcm1 : (-1 : Int32).toInt = -1 := rfl
  have hfl19 := hts (.fieldLink RX10 19 "PlyPlates" "plates" "[LPlyPlates$Plate;") (by decide +kernel)
  have hin10 : ∀ w ∈ u_ws RX10 TX10 11, w ∈ wsX10_comes := by decide +kernel
  have hc1 : (1 : Int32).toInt = 1 := rfl
  have hc0 : (0 : Int32).toInt = 0 := rfl
  have main : ∀ (H : Heap) (locs : List Loc), TW D cy κ G H → va_S (AA κ) s.heap H locs → W p l e rmX10_comes s m args below meth c H locs 0 0 Q (F0 m 0 ls []) := by
    intro H locs hT hS
    refine lv_aload_n hx hb dX10_comes_0 rfl (lv_at hl 0 rfl) ?_
    refine lv_iload_n hx hb dX10_comes_1 rfl (lv_at hl 1 rfl) ?_
    refine tw_Vi (q := (RX10, TX10, 11)) (As := [.int p1]) (rest := []) ⟨hx, hb, hml, hown, hts⟩ (c_X10_isPlate l D cy κ G p0 k0 p1) (cwV 1 hts gX10_comes_X10_isPlate rfl rfl rfl (by decide +kernel) ⟨Nat.le_of_ble_eq_true rfl, Nat.le_of_ble_eq_true rfl⟩) hK hT hS k0 (by decide) rfl rfl hl.1 rfl (Nat.le_of_ble_eq_true rfl) dX10_comes_2 ⟨Nat.zero_le _, Nat.zero_le _⟩ (fun x1 u2 H locs hpu2 hT hS => ?_)
    obtain ⟨huu2, qu2⟩ := hpu2
    rw [huu2] at hT
    refine tb_if_eq (tgt := 16) hx hb dX10_comes_5 (by decide) (fun c3 => ?_) (fun c3 => ?_)
    · skip
      refine lv_iconst (v := (-1 : Int32)) hx hb dX10_comes_16 (by decide) ?_
      exact hret H locs ls 17 (-1 : Int32) G dX10_comes_17 ⟨rfl, trivial⟩ hT hS
    · skip
      refine lv_aload_n hx hb dX10_comes_8 rfl (lv_at hl 0 rfl) ?_
      refine lv_iload_n hx hb dX10_comes_9 rfl (lv_at hl 2 rfl) ?_
      refine tw_Vi (q := (RX10, TX10, 11)) (As := [.int p2]) (rest := []) ⟨hx, hb, hml, hown, hts⟩ (c_X10_isPlate l D cy κ G p0 k0 p2) (cwV 1 hts gX10_comes_X10_isPlate rfl rfl rfl (by decide +kernel) ⟨Nat.le_of_ble_eq_true rfl, Nat.le_of_ble_eq_true rfl⟩) hK hT hS k0 (by decide) rfl rfl hl.1 rfl (Nat.le_of_ble_eq_true rfl) dX10_comes_10 ⟨Nat.zero_le _, Nat.zero_le _⟩ (fun x4 u5 H locs hpu5 hT hS => ?_)
      obtain ⟨huu5, qu5⟩ := hpu5
      rw [huu5] at hT
      refine tb_if_ne (tgt := 18) hx hb dX10_comes_13 (by decide) (fun c6 => ?_) (fun c6 => ?_)
      · skip
        refine lv_aload_n hx hb dX10_comes_18 rfl (lv_at hl 0 rfl) ?_
        refine gf_10_1 hx hb hts hin10 hown hK hT k0 hfl19 dX10_comes_19 (fun a7 ka7 fva7 => ?_)
        refine lv_iload_n hx hb dX10_comes_22 rfl (lv_at hl 1 rfl) ?_
        refine tw_ra (K := 30) (t := 3) (ty := .object RX7) (n := 4) (P := fun b => κ b = 8) hx hb hK hT ka7 (by decide) rfl rfl rfl rfl (by omega) rfl dX10_comes_23 (fun a8 ka8 fva8 => ?_)
        refine lv_aload_n hx hb dX10_comes_24 rfl (lv_at hl 0 rfl) ?_
        refine gf_10_1 hx hb hts hin10 hown hK hT k0 hfl19 dX10_comes_25 (fun a9 ka9 fva9 => ?_)
        obtain rfl : a7 = a9 := eRef (FV.eq fva7 fva9)
        refine lv_iload_n hx hb dX10_comes_28 rfl (lv_at hl 2 rfl) ?_
        refine tw_ra (K := 30) (t := 3) (ty := .object RX7) (n := 4) (P := fun b => κ b = 8) hx hb hK hT ka7 (by decide) rfl rfl rfl rfl (by omega) rfl dX10_comes_29 (fun a10 ka10 fva10 => ?_)
        refine tw_Vi (q := (RX7, TX7, 2)) (As := [.ref a10]) (rest := []) ⟨hx, hb, hml, hown, hts⟩ (c_X7_leftOver l D cy κ G a8 ka8 a10 ka10) (cwV 1 hts gX10_comes_X7_leftOver rfl rfl rfl (by decide +kernel) ⟨Nat.le_of_ble_eq_true rfl, Nat.le_of_ble_eq_true rfl⟩) hK hT hS ka8 (by decide) rfl rfl hl.1 rfl (Nat.le_of_ble_eq_true rfl) dX10_comes_30 ⟨Nat.zero_le _, Nat.zero_le _⟩ (fun x11 u12 H locs hpu12 hT hS => ?_)
        obtain ⟨huu12, qu12⟩ := hpu12
        rw [huu12] at hT
        refine lv_iconst (v := (-1 : Int32)) hx hb dX10_comes_33 (by decide) ?_
        refine tb_icmp_ne (tgt := 41) hx hb dX10_comes_34 (by decide) (fun c13 => ?_) (fun c13 => ?_)
        · skip
          refine lv_iconst (v := (1 : Int32)) hx hb dX10_comes_41 (by decide) ?_
          exact hret H locs ls 42 (1 : Int32) G dX10_comes_42 ⟨rfl, trivial⟩ hT hS
        · skip
          refine lv_iconst (v := (0 : Int32)) hx hb dX10_comes_37 (by decide) ?_
          refine lv_goto (tgt := 42) hx hb dX10_comes_38 (by decide) ?_
          exact hret H locs ls 42 (0 : Int32) G dX10_comes_42 ⟨rfl, trivial⟩ hT hS
      · skip
        refine lv_iconst (v := (-1 : Int32)) hx hb dX10_comes_16 (by decide) ?_
        exact hret H locs ls 17 (-1 : Int32) G dX10_comes_17 ⟨rfl, trivial⟩ hT hS
  exact main s.heap [] hT va_S.rf

abbrev rmX10_drop : Room := { frames := 2, cells := 0, slots := 0, locals := 45 }
set_option maxHeartbeats 4000000 in
set_option maxRecDepth 100000 in
theorem c_X10_drop (l : Launch) (D : va_G) (cy : Nat → ClassId) (κ : Nat → Nat) (G : Gh) (p0 : Nat) (k0 : κ p0 = 11) (p1 : Int32) (p2 : Int32) : Met l yX10_drop wsX10_drop rmX10_drop (va_Pc [.ref p0, .int p1, .int p2] (fun U => WW D cy κ G U)) (va_Qi (fun (r : Int32) (u : Gh) => u = G ∧ (True)) (fun u t => WW D cy κ u t) (AA κ)) 0 0 (AA κ) := by
  refine Met.twi (cc := cX10_drop) (maxL := 3) (by decide) rfl (Nat.le_of_ble_eq_true rfl) ?_
  intro p e s m args below meth c Q hx hb hml hown hts hK hT hret ls hl
  have hl : lv_has ls 3 [(0, .ref p0), (1, .int p1), (2, .int p2)] := hl
  have hcm1 : (-1 : Int32).toInt = -1 := rfl
  have hfl19 := hts (.fieldLink RX10 19 "PlyPlates" "plates" "[LPlyPlates$Plate;") (by decide +kernel)
  have hin10 : ∀ w ∈ u_ws RX10 TX10 11, w ∈ wsX10_drop := by decide +kernel
  have main : ∀ (H : Heap) (locs : List Loc), TW D cy κ G H → va_S (AA κ) s.heap H locs → W p l e rmX10_drop s m args below meth c H locs 0 0 Q (F0 m 0 ls []) := by
    intro H locs hT hS
    refine lv_aload_n hx hb dX10_drop_0 rfl (lv_at hl 0 rfl) ?_
    refine lv_iload_n hx hb dX10_drop_1 rfl (lv_at hl 1 rfl) ?_
    refine tw_Vi (q := (RX10, TX10, 11)) (As := [.int p1]) (rest := []) ⟨hx, hb, hml, hown, hts⟩ (c_X10_isPlate l D cy κ G p0 k0 p1) (cwV 1 hts gX10_drop_X10_isPlate rfl rfl rfl (by decide +kernel) ⟨Nat.le_of_ble_eq_true rfl, Nat.le_of_ble_eq_true rfl⟩) hK hT hS k0 (by decide) rfl rfl hl.1 rfl (Nat.le_of_ble_eq_true rfl) dX10_drop_2 ⟨Nat.zero_le _, Nat.zero_le _⟩ (fun x1 u2 H locs hpu2 hT hS => ?_)
    obtain ⟨huu2, qu2⟩ := hpu2
    rw [huu2] at hT
    refine tb_if_eq (tgt := 16) hx hb dX10_drop_5 (by decide) (fun c3 => ?_) (fun c3 => ?_)
    · skip
      refine lv_iconst (v := (-1 : Int32)) hx hb dX10_drop_16 (by decide) ?_
      exact hret H locs ls 17 (-1 : Int32) G dX10_drop_17 ⟨rfl, trivial⟩ hT hS
    · skip
      refine lv_aload_n hx hb dX10_drop_8 rfl (lv_at hl 0 rfl) ?_
      refine lv_iload_n hx hb dX10_drop_9 rfl (lv_at hl 2 rfl) ?_
      refine tw_Vi (q := (RX10, TX10, 11)) (As := [.int p2]) (rest := []) ⟨hx, hb, hml, hown, hts⟩ (c_X10_isPlate l D cy κ G p0 k0 p2) (cwV 1 hts gX10_drop_X10_isPlate rfl rfl rfl (by decide +kernel) ⟨Nat.le_of_ble_eq_true rfl, Nat.le_of_ble_eq_true rfl⟩) hK hT hS k0 (by decide) rfl rfl hl.1 rfl (Nat.le_of_ble_eq_true rfl) dX10_drop_10 ⟨Nat.zero_le _, Nat.zero_le _⟩ (fun x4 u5 H locs hpu5 hT hS => ?_)
      obtain ⟨huu5, qu5⟩ := hpu5
      rw [huu5] at hT
      refine tb_if_ne (tgt := 18) hx hb dX10_drop_13 (by decide) (fun c6 => ?_) (fun c6 => ?_)
      · skip
        refine lv_aload_n hx hb dX10_drop_18 rfl (lv_at hl 0 rfl) ?_
        refine gf_10_1 hx hb hts hin10 hown hK hT k0 hfl19 dX10_drop_19 (fun a7 ka7 fva7 => ?_)
        refine lv_iload_n hx hb dX10_drop_22 rfl (lv_at hl 1 rfl) ?_
        refine tw_ra (K := 30) (t := 3) (ty := .object RX7) (n := 4) (P := fun b => κ b = 8) hx hb hK hT ka7 (by decide) rfl rfl rfl rfl (by omega) rfl dX10_drop_23 (fun a8 ka8 fva8 => ?_)
        refine lv_aload_n hx hb dX10_drop_24 rfl (lv_at hl 0 rfl) ?_
        refine gf_10_1 hx hb hts hin10 hown hK hT k0 hfl19 dX10_drop_25 (fun a9 ka9 fva9 => ?_)
        obtain rfl : a7 = a9 := eRef (FV.eq fva7 fva9)
        refine lv_iload_n hx hb dX10_drop_28 rfl (lv_at hl 2 rfl) ?_
        refine tw_ra (K := 30) (t := 3) (ty := .object RX7) (n := 4) (P := fun b => κ b = 8) hx hb hK hT ka7 (by decide) rfl rfl rfl rfl (by omega) rfl dX10_drop_29 (fun a10 ka10 fva10 => ?_)
        refine tw_Vi (q := (RX7, TX7, 2)) (As := [.ref a10]) (rest := []) ⟨hx, hb, hml, hown, hts⟩ (c_X7_leftOver l D cy κ G a8 ka8 a10 ka10) (cwV 1 hts gX10_drop_X7_leftOver rfl rfl rfl (by decide +kernel) ⟨Nat.le_of_ble_eq_true rfl, Nat.le_of_ble_eq_true rfl⟩) hK hT hS ka8 (by decide) rfl rfl hl.1 rfl (Nat.le_of_ble_eq_true rfl) dX10_drop_30 ⟨Nat.zero_le _, Nat.zero_le _⟩ (fun x11 u12 H locs hpu12 hT hS => ?_)
        obtain ⟨huu12, qu12⟩ := hpu12
        rw [huu12] at hT
        exact hret H locs ls 33 x11 G dX10_drop_33 ⟨rfl, trivial⟩ hT hS
      · skip
        refine lv_iconst (v := (-1 : Int32)) hx hb dX10_drop_16 (by decide) ?_
        exact hret H locs ls 17 (-1 : Int32) G dX10_drop_17 ⟨rfl, trivial⟩ hT hS
  exact main s.heap [] hT va_S.rf

abbrev rmX10_count : Room := { frames := 2, cells := 0, slots := 0, locals := 43 }
set_option maxHeartbeats 4000000 in
set_option maxRecDepth 100000 in
theorem c_X10_count (l : Launch) (D : va_G) (cy : Nat → ClassId) (κ : Nat → Nat) (G : Gh) (p0 : Nat) (k0 : κ p0 = 11) (p1 : Int32) : Met l yX10_count wsX10_count rmX10_count (va_Pc [.ref p0, .int p1] (fun U => WW D cy κ G U)) (va_Qi (fun (r : Int32) (u : Gh) => u = G ∧ (True)) (fun u t => WW D cy κ u t) (AA κ)) 0 0 (AA κ) := by
  refine Met.twi (cc := cX10_count) (maxL := 2) (by decide) rfl (Nat.le_of_ble_eq_true rfl) ?_
  intro p e s m args below meth c Q hx hb hml hown hts hK hT hret ls hl
  have hl : lv_has ls 2 [(0, .ref p0), (1, .int p1)] := hl
  have hc1 : (1 : Int32).toInt = 1 := rfl
  have hc2 : (2 : Int32).toInt = 2 := rfl
  have hc10 : (10 : Int32).toInt = 10 := rfl
  have hc20 : (20 : Int32).toInt = 20 := rfl
  have hcm1 : (-1 : Int32).toInt = -1 := rfl
  have hfl19 := hts (.fieldLink RX10 19 "PlyPlates" "plates" "[LPlyPlates$Plate;") (by decide +kernel)
  have hin10 : ∀ w ∈ u_ws RX10 TX10 11, w ∈ wsX10_count := by decide +kernel
  have hfl119 := hts (.fieldLink RX10 119 "PlyPlates$Plate" "size" "I") (by decide +kernel)
  have hin7 : ∀ w ∈ u_ws RX7 TX7 2, w ∈ wsX10_count := by decide +kernel
  have hfl26 := hts (.fieldLink RX10 26 "PlyPlates" "cases" "LPlyPlates$Cases;") (by decide +kernel)
  have hfl254 := hts (.fieldLink RX10 254 "PlyPlates$Cases" "size" "I") (by decide +kernel)
  have hin1 : ∀ w ∈ u_ws RX1 TX1 2, w ∈ wsX10_count := by decide +kernel
  have hfl60 := hts (.fieldLink RX10 60 "PlyPlates" "plateCount" "I") (by decide +kernel)
  have hfl56 := hts (.fieldLink RX10 56 "PlyPlates" "stuffCount" "I") (by decide +kernel)
  have main : ∀ (H : Heap) (locs : List Loc), TW D cy κ G H → va_S (AA κ) s.heap H locs → W p l e rmX10_count s m args below meth c H locs 0 0 Q (F0 m 0 ls []) := by
    intro H locs hT hS
    refine lv_iload_n hx hb dX10_count_0 rfl (lv_at hl 1 rfl) ?_
    refine tb_if_ne (tgt := 9) hx hb dX10_count_1 (by decide) (fun c1 => ?_) (fun c1 => ?_)
    · skip
      refine lv_iload_n hx hb dX10_count_9 rfl (lv_at hl 1 rfl) ?_
      refine lv_iconst (v := (1 : Int32)) hx hb dX10_count_10 (by decide) ?_
      refine tb_icmp_ne (tgt := 19) hx hb dX10_count_11 (by decide) (fun c2 => ?_) (fun c2 => ?_)
      · skip
        refine lv_iload_n hx hb dX10_count_19 rfl (lv_at hl 1 rfl) ?_
        refine lv_iconst (v := (2 : Int32)) hx hb dX10_count_20 (by decide) ?_
        refine tb_icmp_ne (tgt := 32) hx hb dX10_count_21 (by decide) (fun c3 => ?_) (fun c3 => ?_)
        · skip
          refine lv_iload_n hx hb dX10_count_32 rfl (lv_at hl 1 rfl) ?_
          refine lv_bipush (v := (10 : Int32)) hx hb dX10_count_33 (by decide) ?_
          have J62 : ∀ (H : Heap) (locs : List Loc) (ls : Array Slot) , (TW D cy κ G H) → (va_S (AA κ) s.heap H locs) → (lv_has ls 2 [(0, .ref p0), (1, .int p1)]) → W p l e rmX10_count s m args below meth c H locs 0 0 Q (F0 m 62 ls []) := by
            intro H locs ls  hT hS hl 
            refine lv_iload_n hx hb dX10_count_62 rfl (lv_at hl 1 rfl) ?_
            refine lv_bipush (v := (20 : Int32)) hx hb dX10_count_63 (by decide) ?_
            refine tb_icmp_lt (tgt := 92) hx hb dX10_count_65 (by decide) (fun c4 => ?_) (fun c4 => ?_)
            · skip
              refine lv_iconst (v := (-1 : Int32)) hx hb dX10_count_92 (by decide) ?_
              exact hret H locs ls 93 (-1 : Int32) G dX10_count_93 ⟨rfl, trivial⟩ hT hS
            · skip
              refine lv_aload_n hx hb dX10_count_68 rfl (lv_at hl 0 rfl) ?_
              refine lv_iload_n hx hb dX10_count_69 rfl (lv_at hl 1 rfl) ?_
              refine lv_bipush (v := (20 : Int32)) hx hb dX10_count_70 (by decide) ?_
              refine lv_isub hx hb dX10_count_72 ?_
              refine lv_topi (fun x5 ex5 => ?_)
              have tx5 : x5.toInt = p1.toInt - (20 : Int32).toInt := by rw [ex5]; exact ti_sub (by have := i32b p1; have := i32b (20 : Int32); omega)
              refine tw_Vi (q := (RX10, TX10, 11)) (As := [.int x5]) (rest := []) ⟨hx, hb, hml, hown, hts⟩ (c_X10_isPlate l D cy κ G p0 k0 x5) (cwV 1 hts gX10_count_X10_isPlate rfl rfl rfl (by decide +kernel) ⟨Nat.le_of_ble_eq_true rfl, Nat.le_of_ble_eq_true rfl⟩) hK hT hS k0 (by decide) rfl rfl hl.1 rfl (Nat.le_of_ble_eq_true rfl) dX10_count_73 ⟨Nat.zero_le _, Nat.zero_le _⟩ (fun x6 u7 H locs hpu7 hT hS => ?_)
              obtain ⟨huu7, qu7⟩ := hpu7
              rw [huu7] at hT
              refine tb_if_eq (tgt := 92) hx hb dX10_count_76 (by decide) (fun c8 => ?_) (fun c8 => ?_)
              · skip
                refine lv_iconst (v := (-1 : Int32)) hx hb dX10_count_92 (by decide) ?_
                exact hret H locs ls 93 (-1 : Int32) G dX10_count_93 ⟨rfl, trivial⟩ hT hS
              · skip
                refine lv_aload_n hx hb dX10_count_79 rfl (lv_at hl 0 rfl) ?_
                refine gf_10_1 hx hb hts hin10 hown hK hT k0 hfl19 dX10_count_80 (fun a9 ka9 fva9 => ?_)
                refine lv_iload_n hx hb dX10_count_83 rfl (lv_at hl 1 rfl) ?_
                refine lv_bipush (v := (20 : Int32)) hx hb dX10_count_84 (by decide) ?_
                refine lv_isub hx hb dX10_count_86 ?_
                refine lv_topi (fun x10 ex10 => ?_)
                have tx10 : x10.toInt = p1.toInt - (20 : Int32).toInt := by rw [ex10]; exact ti_sub (by have := i32b p1; have := i32b (20 : Int32); omega)
                refine tw_ra (K := 30) (t := 3) (ty := .object RX7) (n := 4) (P := fun b => κ b = 8) hx hb hK hT ka9 (by decide) rfl rfl rfl rfl (by omega) rfl dX10_count_87 (fun a11 ka11 fva11 => ?_)
                refine tw_Vi (q := (RX7, TX7, 2)) (As := []) (rest := []) ⟨hx, hb, hml, hown, hts⟩ (c_X7_thickness l D cy κ G a11 ka11) (cwV 0 hts gX10_count_X7_thickness rfl rfl rfl (by decide +kernel) ⟨Nat.le_of_ble_eq_true rfl, Nat.le_of_ble_eq_true rfl⟩) hK hT hS ka11 (by decide) rfl rfl hl.1 rfl (Nat.le_of_ble_eq_true rfl) dX10_count_88 ⟨Nat.zero_le _, Nat.zero_le _⟩ (fun x12 u13 H locs hpu13 hT hS => ?_)
                obtain ⟨huu13, qu13⟩ := hpu13
                rw [huu13] at hT
                exact hret H locs ls 91 x12 G dX10_count_91 ⟨rfl, trivial⟩ hT hS
          refine tb_icmp_lt (tgt := 62) hx hb dX10_count_35 (by decide) (fun c14 => ?_) (fun c14 => ?_)
          · skip
            exact J62 H locs ls  hT hS (lv_sub hl [0, 1] rfl) 
          · skip
            refine lv_aload_n hx hb dX10_count_38 rfl (lv_at hl 0 rfl) ?_
            refine lv_iload_n hx hb dX10_count_39 rfl (lv_at hl 1 rfl) ?_
            refine lv_bipush (v := (10 : Int32)) hx hb dX10_count_40 (by decide) ?_
            refine lv_isub hx hb dX10_count_42 ?_
            refine lv_topi (fun x15 ex15 => ?_)
            have tx15 : x15.toInt = p1.toInt - (10 : Int32).toInt := by rw [ex15]; exact ti_sub (by have := i32b p1; have := i32b (10 : Int32); omega)
            refine tw_Vi (q := (RX10, TX10, 11)) (As := [.int x15]) (rest := []) ⟨hx, hb, hml, hown, hts⟩ (c_X10_isPlate l D cy κ G p0 k0 x15) (cwV 1 hts gX10_count_X10_isPlate rfl rfl rfl (by decide +kernel) ⟨Nat.le_of_ble_eq_true rfl, Nat.le_of_ble_eq_true rfl⟩) hK hT hS k0 (by decide) rfl rfl hl.1 rfl (Nat.le_of_ble_eq_true rfl) dX10_count_43 ⟨Nat.zero_le _, Nat.zero_le _⟩ (fun x16 u17 H locs hpu17 hT hS => ?_)
            obtain ⟨huu17, qu17⟩ := hpu17
            rw [huu17] at hT
            refine tb_if_eq (tgt := 62) hx hb dX10_count_46 (by decide) (fun c18 => ?_) (fun c18 => ?_)
            · skip
              exact J62 H locs ls  hT hS (lv_sub hl [0, 1] rfl) 
            · skip
              refine lv_aload_n hx hb dX10_count_49 rfl (lv_at hl 0 rfl) ?_
              refine gf_10_1 hx hb hts hin10 hown hK hT k0 hfl19 dX10_count_50 (fun a19 ka19 fva19 => ?_)
              refine lv_iload_n hx hb dX10_count_53 rfl (lv_at hl 1 rfl) ?_
              refine lv_bipush (v := (10 : Int32)) hx hb dX10_count_54 (by decide) ?_
              refine lv_isub hx hb dX10_count_56 ?_
              refine lv_topi (fun x20 ex20 => ?_)
              have tx20 : x20.toInt = p1.toInt - (10 : Int32).toInt := by rw [ex20]; exact ti_sub (by have := i32b p1; have := i32b (10 : Int32); omega)
              refine tw_ra (K := 30) (t := 3) (ty := .object RX7) (n := 4) (P := fun b => κ b = 8) hx hb hK hT ka19 (by decide) rfl rfl rfl rfl (by omega) rfl dX10_count_57 (fun a21 ka21 fva21 => ?_)
              refine gf_7_1 hx hb hts hin7 hown hK hT ka21 hfl119 dX10_count_58 (fun x22 kx22 fvx22 => ?_)
              have gx22 := congrArg Int32.toInt kx22.1
              exact hret H locs ls 61 x22 G dX10_count_61 ⟨rfl, trivial⟩ hT hS
        · skip
          refine lv_aload_n hx hb dX10_count_24 rfl (lv_at hl 0 rfl) ?_
          refine gf_10_2 hx hb hts hin10 hown hK hT k0 hfl26 dX10_count_25 (fun a23 ka23 fva23 => ?_)
          refine gf_1_1 hx hb hts hin1 hown hK hT ka23 hfl254 dX10_count_28 (fun x24 kx24 fvx24 => ?_)
          have gx24 := congrArg Int32.toInt kx24.1
          exact hret H locs ls 31 x24 G dX10_count_31 ⟨rfl, trivial⟩ hT hS
      · skip
        refine lv_aload_n hx hb dX10_count_14 rfl (lv_at hl 0 rfl) ?_
        refine gf_10_10 hx hb hts hin10 hown hK hT k0 hfl60 dX10_count_15 (fun x25 kx25 fvx25 => ?_)
        have gx25 := congrArg Int32.toInt kx25.1
        exact hret H locs ls 18 x25 G dX10_count_18 ⟨rfl, trivial⟩ hT hS
    · skip
      refine lv_aload_n hx hb dX10_count_4 rfl (lv_at hl 0 rfl) ?_
      refine gf_10_9 hx hb hts hin10 hown hK hT k0 hfl56 dX10_count_5 (fun x26 kx26 fvx26 => ?_)
      have gx26 := congrArg Int32.toInt kx26.1
      exact hret H locs ls 8 x26 G dX10_count_8 ⟨rfl, trivial⟩ hT hS
  exact main s.heap [] hT va_S.rf

abbrev rmX10_stuff : Room := { frames := 2, cells := 0, slots := 0, locals := 47 }
set_option maxHeartbeats 4000000 in
set_option maxRecDepth 100000 in
theorem c_X10_stuff (l : Launch) (D : va_G) (cy : Nat → ClassId) (κ : Nat → Nat) (G : Gh) (p0 : Nat) (k0 : κ p0 = 11) (p1 : Int32) (p2 : Int32) (p3 : Int32) (p4 : Int32) : Met l yX10_stuff wsX10_stuff rmX10_stuff (va_Pc [.ref p0, .int p1, .int p2, .int p3, .int p4] (fun U => WW D cy κ G U)) (va_Qi (fun (r : Int32) (u : Gh) => (u = G ∧ r.toInt = -2 ∧ (p1.toInt < 1 ∨ 200 < p1.toInt ∨ p2.toInt < 1 ∨ 200 < p2.toInt ∨ p3.toInt < 0 ∨ 200 < p3.toInt ∨ p4.toInt < 1 ∨ 200 < p4.toInt ∨ (p1 * p2).toInt ≤ (p3 * p3).toInt)) ∨ (u = G ∧ r.toInt = -4 ∧ (1 ≤ p1.toInt ∧ p1.toInt ≤ 200 ∧ 1 ≤ p2.toInt ∧ p2.toInt ≤ 200 ∧ 0 ≤ p3.toInt ∧ p3.toInt ≤ 200 ∧ 1 ≤ p4.toInt ∧ p4.toInt ≤ 200 ∧ (p3 * p3).toInt < (p1 * p2).toInt) ∧ 3 ≤ (G.1 0).toInt) ∨ ((1 ≤ p1.toInt ∧ p1.toInt ≤ 200 ∧ 1 ≤ p2.toInt ∧ p2.toInt ≤ 200 ∧ 0 ≤ p3.toInt ∧ p3.toInt ≤ 200 ∧ 1 ≤ p4.toInt ∧ p4.toInt ≤ 200 ∧ (p3 * p3).toInt < (p1 * p2).toInt) ∧ (G.1 0).toInt < 3 ∧ r.toInt = (G.1 0).toInt ∧ ∃ x : Int32, x.toInt = (G.1 0).toInt + 1 ∧ u = cG G 0 x)) (fun u t => WW D cy κ u t) (AA κ)) 0 0 (AA κ) := by
  refine Met.twi (cc := cX10_stuff) (maxL := 5) (by decide) rfl (Nat.le_of_ble_eq_true rfl) ?_
  intro p e s m args below meth c Q hx hb hml hown hts hK hT hret ls hl
  have hl : lv_has ls 5 [(0, .ref p0), (1, .int p1), (2, .int p2), (3, .int p3), (4, .int p4)] := hl
  have hfl56 := hts (.fieldLink RX10 56 "PlyPlates" "stuffCount" "I") (by decide +kernel)
  have hin10 : ∀ w ∈ u_ws RX10 TX10 11, w ∈ wsX10_stuff := by decide +kernel
  have hc3 : (3 : Int32).toInt = 3 := rfl
  have hfl13 := hts (.fieldLink RX10 13 "PlyPlates" "stuffs" "[LPlyPlates$Stuff;") (by decide +kernel)
  have hc1 : (1 : Int32).toInt = 1 := rfl
  have hcm4 : (-4 : Int32).toInt = -4 := rfl
  have hcm2 : (-2 : Int32).toInt = -2 := rfl
  have main : ∀ (H : Heap) (locs : List Loc), TW D cy κ G H → va_S (AA κ) s.heap H locs → W p l e rmX10_stuff s m args below meth c H locs 0 0 Q (F0 m 0 ls []) := by
    intro H locs hT hS
    refine lv_iload_n hx hb dX10_stuff_0 rfl (lv_at hl 1 rfl) ?_
    refine lv_iload_n hx hb dX10_stuff_1 rfl (lv_at hl 2 rfl) ?_
    refine lv_iload_n hx hb dX10_stuff_2 rfl (lv_at hl 3 rfl) ?_
    refine lv_iload hx hb dX10_stuff_3 (lv_at hl 4 rfl) ?_
    refine tw_Si (As := [.int p1, .int p2, .int p3, .int p4]) (rest := []) ⟨hx, hb, hml, hown, hts⟩ (c_X10_isStiffness l D cy κ G p1 p2 p3 p4) (va_cwS 4 hts gX10_stuff_X10_isStiffness rfl rfl rfl (by decide +kernel) ⟨Nat.le_of_ble_eq_true rfl, Nat.le_of_ble_eq_true rfl⟩) hK hT hS rfl hl.1 rfl (Nat.le_of_ble_eq_true rfl) dX10_stuff_5 ⟨Nat.zero_le _, Nat.zero_le _⟩ (fun x1 u2 H locs hpu2 hT hS => ?_)
    obtain ⟨huu2, qu2⟩ := hpu2
    rw [huu2] at hT
    refine tb_if_ne (tgt := 14) hx hb dX10_stuff_8 (by decide) (fun c3 => ?_) (fun c3 => ?_)
    · skip
      refine lv_aload_n hx hb dX10_stuff_14 rfl (lv_at hl 0 rfl) ?_
      refine gf_10_9 hx hb hts hin10 hown hK hT k0 hfl56 dX10_stuff_15 (fun x4 kx4 fvx4 => ?_)
      have gx4 := congrArg Int32.toInt kx4.1
      refine lv_iconst (v := (3 : Int32)) hx hb dX10_stuff_18 (by decide) ?_
      refine tb_icmp_lt (tgt := 25) hx hb dX10_stuff_19 (by decide) (fun c5 => ?_) (fun c5 => ?_)
      · skip
        refine lv_aload_n hx hb dX10_stuff_25 rfl (lv_at hl 0 rfl) ?_
        refine gf_10_0 hx hb hts hin10 hown hK hT k0 hfl13 dX10_stuff_26 (fun a6 ka6 fva6 => ?_)
        refine lv_aload_n hx hb dX10_stuff_29 rfl (lv_at hl 0 rfl) ?_
        refine gf_10_9 hx hb hts hin10 hown hK hT k0 hfl56 dX10_stuff_30 (fun x7 kx7 fvx7 => ?_)
        have gx7 := congrArg Int32.toInt kx7.1
        obtain rfl : x4 = x7 := eInt (FV.eq fvx4 fvx7)
        refine tw_ra (K := 24) (t := 4) (ty := .object RX9) (n := 3) (P := fun b => κ b = 10) hx hb hK hT ka6 (by decide) rfl rfl rfl rfl (by omega) rfl dX10_stuff_33 (fun a8 ka8 fva8 => ?_)
        refine lv_iload_n hx hb dX10_stuff_34 rfl (lv_at hl 1 rfl) ?_
        refine lv_iload_n hx hb dX10_stuff_35 rfl (lv_at hl 2 rfl) ?_
        refine lv_iload_n hx hb dX10_stuff_36 rfl (lv_at hl 3 rfl) ?_
        refine lv_iload hx hb dX10_stuff_37 (lv_at hl 4 rfl) ?_
        refine tw_Vv (q := (RX9, TX9, 7)) (As := [.int p1, .int p2, .int p3, .int p4]) (rest := []) ⟨hx, hb, hml, hown, hts⟩ (c_X9_become l D cy κ G a8 ka8 p1 p2 p3 p4) (cwV 4 hts gX10_stuff_X9_become rfl rfl rfl (by decide +kernel) ⟨Nat.le_of_ble_eq_true rfl, Nat.le_of_ble_eq_true rfl⟩) hK hT hS ka8 (by decide) rfl rfl hl.1 rfl (Nat.le_of_ble_eq_true rfl) dX10_stuff_39 ⟨Nat.zero_le _, Nat.zero_le _⟩ (fun u10 H locs hpu10 hT hS => ?_)
        obtain ⟨huu10, qu10⟩ := hpu10
        rw [huu10] at hT
        refine lv_aload_n hx hb dX10_stuff_42 rfl (lv_at hl 0 rfl) ?_
        refine lv_dup hx hb dX10_stuff_43 rfl ?_
        refine gf_10_9 hx hb hts hin10 hown hK hT k0 hfl56 dX10_stuff_44 (fun x11 kx11 fvx11 => ?_)
        have gx11 := congrArg Int32.toInt kx11.1
        refine lv_iconst (v := (1 : Int32)) hx hb dX10_stuff_47 (by decide) ?_
        refine lv_iadd hx hb dX10_stuff_48 ?_
        refine lv_topi (fun x12 ex12 => ?_)
        have tx12 : x12.toInt = x11.toInt + (1 : Int32).toInt := by rw [ex12]; exact ti_add (by have := i32b x11; have := i32b (1 : Int32); omega)
        refine pc_10_9 hx hb hts hin10 hown hK hT hS k0 hfl56 dX10_stuff_49 (by omega) (fun H locs hT hS => ?_)
        have hg0_12 : ((cG G 0 x12).1 0).toInt = x12.toInt := rfl
        refine lv_aload_n hx hb dX10_stuff_52 rfl (lv_at hl 0 rfl) ?_
        refine gf_10_9 hx hb hts hin10 hown hK hT k0 hfl56 dX10_stuff_53 (fun x13 kx13 fvx13 => ?_)
        have gx13 := congrArg Int32.toInt kx13.1
        refine lv_iconst (v := (1 : Int32)) hx hb dX10_stuff_56 (by decide) ?_
        refine lv_isub hx hb dX10_stuff_57 ?_
        refine lv_topi (fun x14 ex14 => ?_)
        have tx14 : x14.toInt = x13.toInt - (1 : Int32).toInt := by rw [ex14]; exact ti_sub (by have := i32b x13; have := i32b (1 : Int32); omega)
        exact hret H locs ls 58 x14 (cG G 0 x12) dX10_stuff_58 (Or.inr (Or.inr ⟨by omega, by omega, by omega, x12, by omega, rfl⟩)) hT hS
      · skip
        refine lv_bipush (v := (-4 : Int32)) hx hb dX10_stuff_22 (by decide) ?_
        exact hret H locs ls 24 (-4 : Int32) G dX10_stuff_24 (by first | exact Or.inl ⟨rfl, by omega, by omega⟩ | exact Or.inr (Or.inl ⟨rfl, by omega, by omega, by omega⟩)) hT hS
    · skip
      refine lv_bipush (v := (-2 : Int32)) hx hb dX10_stuff_11 (by decide) ?_
      exact hret H locs ls 13 (-2 : Int32) G dX10_stuff_13 (by first | exact Or.inl ⟨rfl, by omega, by omega⟩ | exact Or.inr (Or.inl ⟨rfl, by omega, by omega, by omega⟩)) hT hS
  exact main s.heap [] hT va_S.rf

abbrev rmX10_growth : Room := { frames := 2, cells := 0, slots := 0, locals := 43 }
set_option maxHeartbeats 4000000 in
set_option maxRecDepth 100000 in
theorem c_X10_growth (l : Launch) (D : va_G) (cy : Nat → ClassId) (κ : Nat → Nat) (G : Gh) (p0 : Nat) (k0 : κ p0 = 11) (p1 : Int32) (p2 : Int32) (p3 : Int32) : Met l yX10_growth wsX10_growth rmX10_growth (va_Pc [.ref p0, .int p1, .int p2, .int p3] (fun U => WW D cy κ G U)) (va_Qi (fun (r : Int32) (u : Gh) => u = G ∧ (r.toInt = -1 ∧ (p1.toInt < 0 ∨ (G.1 0).toInt ≤ p1.toInt) ∨ 0 ≤ p1.toInt ∧ p1.toInt < (G.1 0).toInt ∧ (r.toInt = -2 ∧ (p2.toInt < -20 ∨ 20 < p2.toInt ∨ p3.toInt < -20 ∨ 20 < p3.toInt) ∨ r.toInt = 0 ∧ -20 ≤ p2.toInt ∧ p2.toInt ≤ 20 ∧ -20 ≤ p3.toInt ∧ p3.toInt ≤ 20))) (fun u t => WW D cy κ u t) (AA κ)) 0 0 (AA κ) := by
  refine Met.twi (cc := cX10_growth) (maxL := 4) (by decide) rfl (Nat.le_of_ble_eq_true rfl) ?_
  intro p e s m args below meth c Q hx hb hml hown hts hK hT hret ls hl
  have hl : lv_has ls 4 [(0, .ref p0), (1, .int p1), (2, .int p2), (3, .int p3)] := hl
  have hcm20 : (-20 : Int32).toInt = -20 := rfl
  have hc20 : (20 : Int32).toInt = 20 := rfl
  have hcm2 : (-2 : Int32).toInt = -2 := rfl
  have hfl13 := hts (.fieldLink RX10 13 "PlyPlates" "stuffs" "[LPlyPlates$Stuff;") (by decide +kernel)
  have hin10 : ∀ w ∈ u_ws RX10 TX10 11, w ∈ wsX10_growth := by decide +kernel
  have hfl102 := hts (.fieldLink RX10 102 "PlyPlates$Stuff" "along" "I") (by decide +kernel)
  have hin9 : ∀ w ∈ u_ws RX9 TX9 7, w ∈ wsX10_growth := by decide +kernel
  have hfl105 := hts (.fieldLink RX10 105 "PlyPlates$Stuff" "across" "I") (by decide +kernel)
  have hc0 : (0 : Int32).toInt = 0 := rfl
  have hcm1 : (-1 : Int32).toInt = -1 := rfl
  have main : ∀ (H : Heap) (locs : List Loc), TW D cy κ G H → va_S (AA κ) s.heap H locs → W p l e rmX10_growth s m args below meth c H locs 0 0 Q (F0 m 0 ls []) := by
    intro H locs hT hS
    refine lv_aload_n hx hb dX10_growth_0 rfl (lv_at hl 0 rfl) ?_
    refine lv_iload_n hx hb dX10_growth_1 rfl (lv_at hl 1 rfl) ?_
    refine tw_Vi (q := (RX10, TX10, 11)) (As := [.int p1]) (rest := []) ⟨hx, hb, hml, hown, hts⟩ (c_X10_isStuff l D cy κ G p0 k0 p1) (cwV 1 hts gX10_growth_X10_isStuff rfl rfl rfl (by decide +kernel) ⟨Nat.le_of_ble_eq_true rfl, Nat.le_of_ble_eq_true rfl⟩) hK hT hS k0 (by decide) rfl rfl hl.1 rfl (Nat.le_of_ble_eq_true rfl) dX10_growth_2 ⟨Nat.zero_le _, Nat.zero_le _⟩ (fun x1 u2 H locs hpu2 hT hS => ?_)
    obtain ⟨huu2, qu2⟩ := hpu2
    rw [huu2] at hT
    refine tb_if_ne (tgt := 10) hx hb dX10_growth_5 (by decide) (fun c3 => ?_) (fun c3 => ?_)
    · skip
      refine lv_iload_n hx hb dX10_growth_10 rfl (lv_at hl 2 rfl) ?_
      refine lv_bipush (v := (-20 : Int32)) hx hb dX10_growth_11 (by decide) ?_
      refine lv_bipush (v := (20 : Int32)) hx hb dX10_growth_13 (by decide) ?_
      refine tw_Si (As := [.int p2, .int (-20 : Int32), .int (20 : Int32)]) (rest := []) ⟨hx, hb, hml, hown, hts⟩ (c_X10_isWithin l D cy κ G p2 (-20 : Int32) (20 : Int32)) (va_cwS 3 hts gX10_growth_X10_isWithin rfl rfl rfl (by decide +kernel) ⟨Nat.le_of_ble_eq_true rfl, Nat.le_of_ble_eq_true rfl⟩) hK hT hS rfl hl.1 rfl (Nat.le_of_ble_eq_true rfl) dX10_growth_15 ⟨Nat.zero_le _, Nat.zero_le _⟩ (fun x4 u5 H locs hpu5 hT hS => ?_)
      obtain ⟨huu5, qu5⟩ := hpu5
      rw [huu5] at hT
      refine tb_if_eq (tgt := 32) hx hb dX10_growth_18 (by decide) (fun c6 => ?_) (fun c6 => ?_)
      · skip
        refine lv_bipush (v := (-2 : Int32)) hx hb dX10_growth_32 (by decide) ?_
        exact hret H locs ls 34 (-2 : Int32) G dX10_growth_34 ⟨rfl, by omega⟩ hT hS
      · skip
        refine lv_iload_n hx hb dX10_growth_21 rfl (lv_at hl 3 rfl) ?_
        refine lv_bipush (v := (-20 : Int32)) hx hb dX10_growth_22 (by decide) ?_
        refine lv_bipush (v := (20 : Int32)) hx hb dX10_growth_24 (by decide) ?_
        refine tw_Si (As := [.int p3, .int (-20 : Int32), .int (20 : Int32)]) (rest := []) ⟨hx, hb, hml, hown, hts⟩ (c_X10_isWithin l D cy κ G p3 (-20 : Int32) (20 : Int32)) (va_cwS 3 hts gX10_growth_X10_isWithin rfl rfl rfl (by decide +kernel) ⟨Nat.le_of_ble_eq_true rfl, Nat.le_of_ble_eq_true rfl⟩) hK hT hS rfl hl.1 rfl (Nat.le_of_ble_eq_true rfl) dX10_growth_26 ⟨Nat.zero_le _, Nat.zero_le _⟩ (fun x7 u8 H locs hpu8 hT hS => ?_)
        obtain ⟨huu8, qu8⟩ := hpu8
        rw [huu8] at hT
        refine tb_if_ne (tgt := 35) hx hb dX10_growth_29 (by decide) (fun c9 => ?_) (fun c9 => ?_)
        · skip
          refine lv_aload_n hx hb dX10_growth_35 rfl (lv_at hl 0 rfl) ?_
          refine gf_10_0 hx hb hts hin10 hown hK hT k0 hfl13 dX10_growth_36 (fun a10 ka10 fva10 => ?_)
          refine lv_iload_n hx hb dX10_growth_39 rfl (lv_at hl 1 rfl) ?_
          refine tw_ra (K := 24) (t := 4) (ty := .object RX9) (n := 3) (P := fun b => κ b = 10) hx hb hK hT ka10 (by decide) rfl rfl rfl rfl (by omega) rfl dX10_growth_40 (fun a11 ka11 fva11 => ?_)
          refine lv_iload_n hx hb dX10_growth_41 rfl (lv_at hl 2 rfl) ?_
          refine pf_9_4 hx hb hts hin9 hown hK hT hS ka11 hfl102 dX10_growth_42 (fun H locs hT hS => ?_)
          refine lv_aload_n hx hb dX10_growth_45 rfl (lv_at hl 0 rfl) ?_
          refine gf_10_0 hx hb hts hin10 hown hK hT k0 hfl13 dX10_growth_46 (fun a12 ka12 fva12 => ?_)
          refine lv_iload_n hx hb dX10_growth_49 rfl (lv_at hl 1 rfl) ?_
          refine tw_ra (K := 24) (t := 4) (ty := .object RX9) (n := 3) (P := fun b => κ b = 10) hx hb hK hT ka12 (by decide) rfl rfl rfl rfl (by omega) rfl dX10_growth_50 (fun a13 ka13 fva13 => ?_)
          refine lv_iload_n hx hb dX10_growth_51 rfl (lv_at hl 3 rfl) ?_
          refine pf_9_5 hx hb hts hin9 hown hK hT hS ka13 hfl105 dX10_growth_52 (fun H locs hT hS => ?_)
          refine lv_iconst (v := (0 : Int32)) hx hb dX10_growth_55 (by decide) ?_
          exact hret H locs ls 56 (0 : Int32) G dX10_growth_56 ⟨rfl, by omega⟩ hT hS
        · skip
          refine lv_bipush (v := (-2 : Int32)) hx hb dX10_growth_32 (by decide) ?_
          exact hret H locs ls 34 (-2 : Int32) G dX10_growth_34 ⟨rfl, by omega⟩ hT hS
    · skip
      refine lv_iconst (v := (-1 : Int32)) hx hb dX10_growth_8 (by decide) ?_
      exact hret H locs ls 9 (-1 : Int32) G dX10_growth_9 ⟨rfl, by omega⟩ hT hS
  exact main s.heap [] hT va_S.rf

abbrev rmX10_plate : Room := { frames := 0, cells := 0, slots := 0, locals := 0 }
set_option maxHeartbeats 4000000 in
set_option maxRecDepth 100000 in
theorem c_X10_plate (l : Launch) (D : va_G) (cy : Nat → ClassId) (κ : Nat → Nat) (G : Gh) (p0 : Nat) (k0 : κ p0 = 11) : Met l yX10_plate wsX10_plate rmX10_plate (va_Pc [.ref p0] (fun U => WW D cy κ G U)) (va_Qi (fun (r : Int32) (u : Gh) => (u = G ∧ r.toInt = -4 ∧ 4 ≤ (G.1 1).toInt) ∨ ((G.1 1).toInt < 4 ∧ r.toInt = (G.1 1).toInt ∧ ∃ x : Int32, x.toInt = (G.1 1).toInt + 1 ∧ u = cG G 1 x)) (fun u t => WW D cy κ u t) (AA κ)) 0 0 (AA κ) := by
  refine Met.twi (cc := cX10_plate) (maxL := 1) (by decide) rfl (Nat.le_of_ble_eq_true rfl) ?_
  intro p e s m args below meth c Q hx hb hml hown hts hK hT hret ls hl
  have hl : lv_has ls 1 [(0, .ref p0)] := hl
  have hfl60 := hts (.fieldLink RX10 60 "PlyPlates" "plateCount" "I") (by decide +kernel)
  have hin10 : ∀ w ∈ u_ws RX10 TX10 11, w ∈ wsX10_plate := by decide +kernel
  have hc4 : (4 : Int32).toInt = 4 := rfl
  have hc1 : (1 : Int32).toInt = 1 := rfl
  have hcm4 : (-4 : Int32).toInt = -4 := rfl
  have main : ∀ (H : Heap) (locs : List Loc), TW D cy κ G H → va_S (AA κ) s.heap H locs → W p l e rmX10_plate s m args below meth c H locs 0 0 Q (F0 m 0 ls []) := by
    intro H locs hT hS
    refine lv_aload_n hx hb dX10_plate_0 rfl (lv_at hl 0 rfl) ?_
    refine gf_10_10 hx hb hts hin10 hown hK hT k0 hfl60 dX10_plate_1 (fun x1 kx1 fvx1 => ?_)
    have gx1 := congrArg Int32.toInt kx1.1
    refine lv_iconst (v := (4 : Int32)) hx hb dX10_plate_4 (by decide) ?_
    refine tb_icmp_lt (tgt := 11) hx hb dX10_plate_5 (by decide) (fun c2 => ?_) (fun c2 => ?_)
    · skip
      refine lv_aload_n hx hb dX10_plate_11 rfl (lv_at hl 0 rfl) ?_
      refine lv_dup hx hb dX10_plate_12 rfl ?_
      refine gf_10_10 hx hb hts hin10 hown hK hT k0 hfl60 dX10_plate_13 (fun x3 kx3 fvx3 => ?_)
      have gx3 := congrArg Int32.toInt kx3.1
      obtain rfl : x1 = x3 := eInt (FV.eq fvx1 fvx3)
      refine lv_iconst (v := (1 : Int32)) hx hb dX10_plate_16 (by decide) ?_
      refine lv_iadd hx hb dX10_plate_17 ?_
      refine lv_topi (fun x4 ex4 => ?_)
      have tx4 : x4.toInt = x1.toInt + (1 : Int32).toInt := by rw [ex4]; exact ti_add (by have := i32b x1; have := i32b (1 : Int32); omega)
      refine pc_10_10 hx hb hts hin10 hown hK hT hS k0 hfl60 dX10_plate_18 (by omega) (fun H locs hT hS => ?_)
      have hg1_4 : ((cG G 1 x4).1 1).toInt = x4.toInt := rfl
      refine lv_aload_n hx hb dX10_plate_21 rfl (lv_at hl 0 rfl) ?_
      refine gf_10_10 hx hb hts hin10 hown hK hT k0 hfl60 dX10_plate_22 (fun x5 kx5 fvx5 => ?_)
      have gx5 := congrArg Int32.toInt kx5.1
      refine lv_iconst (v := (1 : Int32)) hx hb dX10_plate_25 (by decide) ?_
      refine lv_isub hx hb dX10_plate_26 ?_
      refine lv_topi (fun x6 ex6 => ?_)
      have tx6 : x6.toInt = x5.toInt - (1 : Int32).toInt := by rw [ex6]; exact ti_sub (by have := i32b x5; have := i32b (1 : Int32); omega)
      exact hret H locs ls 27 x6 (cG G 1 x4) dX10_plate_27 (Or.inr ⟨by omega, by omega, x4, by omega, rfl⟩) hT hS
    · skip
      refine lv_bipush (v := (-4 : Int32)) hx hb dX10_plate_8 (by decide) ?_
      exact hret H locs ls 10 (-4 : Int32) G dX10_plate_10 (Or.inl ⟨rfl, by omega, by omega⟩) hT hS
  exact main s.heap [] hT va_S.rf

abbrev rmX10_load : Room := { frames := 2, cells := 0, slots := 0, locals := 44 }
set_option maxHeartbeats 4000000 in
set_option maxRecDepth 100000 in
theorem c_X10_load (l : Launch) (D : va_G) (cy : Nat → ClassId) (κ : Nat → Nat) (G : Gh) (p0 : Nat) (k0 : κ p0 = 11) (p1 : Int32) (p2 : Int32) (p3 : Int32) : Met l yX10_load wsX10_load rmX10_load (va_Pc [.ref p0, .int p1, .int p2, .int p3] (fun U => WW D cy κ G U)) (va_Qi (fun (r : Int32) (u : Gh) => (u = G ∧ r.toInt = -2 ∧ (p1.toInt < -100 ∨ 100 < p1.toInt ∨ p2.toInt < -100 ∨ 100 < p2.toInt ∨ p3.toInt < -100 ∨ 100 < p3.toInt)) ∨ (u = G ∧ r.toInt = -4 ∧ (-100 ≤ p1.toInt ∧ p1.toInt ≤ 100 ∧ -100 ≤ p2.toInt ∧ p2.toInt ≤ 100 ∧ -100 ≤ p3.toInt ∧ p3.toInt ≤ 100) ∧ 4 ≤ (G.1 2).toInt) ∨ ((-100 ≤ p1.toInt ∧ p1.toInt ≤ 100 ∧ -100 ≤ p2.toInt ∧ p2.toInt ≤ 100 ∧ -100 ≤ p3.toInt ∧ p3.toInt ≤ 100) ∧ (G.1 2).toInt < 4 ∧ r.toInt = (G.1 2).toInt ∧ ∃ x : Int32, x.toInt = (G.1 2).toInt + 1 ∧ u = cG G 2 x)) (fun u t => WW D cy κ u t) (AA κ)) 0 0 (AA κ) := by
  refine Met.twi (cc := cX10_load) (maxL := 4) (by decide) rfl (Nat.le_of_ble_eq_true rfl) ?_
  intro p e s m args below meth c Q hx hb hml hown hts hK hT hret ls hl
  have hl : lv_has ls 4 [(0, .ref p0), (1, .int p1), (2, .int p2), (3, .int p3)] := hl
  have hfl26 := hts (.fieldLink RX10 26 "PlyPlates" "cases" "LPlyPlates$Cases;") (by decide +kernel)
  have hin10 : ∀ w ∈ u_ws RX10 TX10 11, w ∈ wsX10_load := by decide +kernel
  have hfl254 := hts (.fieldLink RX10 254 "PlyPlates$Cases" "size" "I") (by decide +kernel)
  have hin1 : ∀ w ∈ u_ws RX1 TX1 2, w ∈ wsX10_load := by decide +kernel
  have hc4 : (4 : Int32).toInt = 4 := rfl
  have hc1 : (1 : Int32).toInt = 1 := rfl
  have hcm4 : (-4 : Int32).toInt = -4 := rfl
  have hcm2 : (-2 : Int32).toInt = -2 := rfl
  have main : ∀ (H : Heap) (locs : List Loc), TW D cy κ G H → va_S (AA κ) s.heap H locs → W p l e rmX10_load s m args below meth c H locs 0 0 Q (F0 m 0 ls []) := by
    intro H locs hT hS
    refine lv_iload_n hx hb dX10_load_0 rfl (lv_at hl 1 rfl) ?_
    refine lv_iload_n hx hb dX10_load_1 rfl (lv_at hl 2 rfl) ?_
    refine lv_iload_n hx hb dX10_load_2 rfl (lv_at hl 3 rfl) ?_
    refine tw_Si (As := [.int p1, .int p2, .int p3]) (rest := []) ⟨hx, hb, hml, hown, hts⟩ (c_X10_isLoad l D cy κ G p1 p2 p3) (va_cwS 3 hts gX10_load_X10_isLoad rfl rfl rfl (by decide +kernel) ⟨Nat.le_of_ble_eq_true rfl, Nat.le_of_ble_eq_true rfl⟩) hK hT hS rfl hl.1 rfl (Nat.le_of_ble_eq_true rfl) dX10_load_3 ⟨Nat.zero_le _, Nat.zero_le _⟩ (fun x1 u2 H locs hpu2 hT hS => ?_)
    obtain ⟨huu2, qu2⟩ := hpu2
    rw [huu2] at hT
    refine tb_if_ne (tgt := 12) hx hb dX10_load_6 (by decide) (fun c3 => ?_) (fun c3 => ?_)
    · skip
      refine lv_aload_n hx hb dX10_load_12 rfl (lv_at hl 0 rfl) ?_
      refine gf_10_2 hx hb hts hin10 hown hK hT k0 hfl26 dX10_load_13 (fun a4 ka4 fva4 => ?_)
      refine gf_1_1 hx hb hts hin1 hown hK hT ka4 hfl254 dX10_load_16 (fun x5 kx5 fvx5 => ?_)
      have gx5 := congrArg Int32.toInt kx5.1
      refine lv_iconst (v := (4 : Int32)) hx hb dX10_load_19 (by decide) ?_
      refine tb_icmp_lt (tgt := 26) hx hb dX10_load_20 (by decide) (fun c6 => ?_) (fun c6 => ?_)
      · skip
        refine lv_aload_n hx hb dX10_load_26 rfl (lv_at hl 0 rfl) ?_
        refine gf_10_2 hx hb hts hin10 hown hK hT k0 hfl26 dX10_load_27 (fun a7 ka7 fva7 => ?_)
        obtain rfl : a4 = a7 := eRef (FV.eq fva4 fva7)
        refine lv_iload_n hx hb dX10_load_30 rfl (lv_at hl 1 rfl) ?_
        refine lv_iload_n hx hb dX10_load_31 rfl (lv_at hl 2 rfl) ?_
        refine lv_iload_n hx hb dX10_load_32 rfl (lv_at hl 3 rfl) ?_
        refine tw_Vv (q := (RX1, TX1, 2)) (As := [.int p1, .int p2, .int p3]) (rest := []) ⟨hx, hb, hml, hown, hts⟩ (c_X1_put l D cy κ G a4 ka4 p1 p2 p3 (by omega)) (cwV 3 hts gX10_load_X1_put rfl rfl rfl (by decide +kernel) ⟨Nat.le_of_ble_eq_true rfl, Nat.le_of_ble_eq_true rfl⟩) hK hT hS ka4 (by decide) rfl rfl hl.1 rfl (Nat.le_of_ble_eq_true rfl) dX10_load_33 ⟨Nat.zero_le _, Nat.zero_le _⟩ (fun u9 H locs hpu9 hT hS => ?_)
        have qu9 := hpu9
        obtain ⟨xu9, tu9, eu9⟩ := qu9
        rw [eu9] at hT
        have hgu9 : ((cG G 2 xu9).1 2).toInt = xu9.toInt := rfl
        refine lv_aload_n hx hb dX10_load_36 rfl (lv_at hl 0 rfl) ?_
        refine gf_10_2 hx hb hts hin10 hown hK hT k0 hfl26 dX10_load_37 (fun a10 ka10 fva10 => ?_)
        refine gf_1_1 hx hb hts hin1 hown hK hT ka10 hfl254 dX10_load_40 (fun x11 kx11 fvx11 => ?_)
        have gx11 := congrArg Int32.toInt kx11.1
        refine lv_iconst (v := (1 : Int32)) hx hb dX10_load_43 (by decide) ?_
        refine lv_isub hx hb dX10_load_44 ?_
        refine lv_topi (fun x12 ex12 => ?_)
        have tx12 : x12.toInt = x11.toInt - (1 : Int32).toInt := by rw [ex12]; exact ti_sub (by have := i32b x11; have := i32b (1 : Int32); omega)
        exact hret H locs ls 45 x12 (cG G 2 xu9) dX10_load_45 (Or.inr (Or.inr ⟨by omega, by omega, by omega, xu9, by omega, rfl⟩)) hT hS
      · skip
        refine lv_bipush (v := (-4 : Int32)) hx hb dX10_load_23 (by decide) ?_
        exact hret H locs ls 25 (-4 : Int32) G dX10_load_25 (by first | exact Or.inl ⟨rfl, by omega, by omega⟩ | exact Or.inr (Or.inl ⟨rfl, by omega, by omega, by omega⟩)) hT hS
    · skip
      refine lv_bipush (v := (-2 : Int32)) hx hb dX10_load_9 (by decide) ?_
      exact hret H locs ls 11 (-2 : Int32) G dX10_load_11 (by first | exact Or.inl ⟨rfl, by omega, by omega⟩ | exact Or.inr (Or.inl ⟨rfl, by omega, by omega, by omega⟩)) hT hS
  exact main s.heap [] hT va_S.rf

abbrev rmX10_unload : Room := { frames := 0, cells := 0, slots := 0, locals := 0 }
set_option maxHeartbeats 4000000 in
set_option maxRecDepth 100000 in
theorem c_X10_unload (l : Launch) (D : va_G) (cy : Nat → ClassId) (κ : Nat → Nat) (G : Gh) (p0 : Nat) (k0 : κ p0 = 11) : Met l yX10_unload wsX10_unload rmX10_unload (va_Pc [.ref p0] (fun U => WW D cy κ G U)) (va_Qi (fun (r : Int32) (u : Gh) => r.toInt = (G.1 2).toInt ∧ ∃ x : Int32, x.toInt = 0 ∧ u = cG G 2 x) (fun u t => WW D cy κ u t) (AA κ)) 0 0 (AA κ) := by
  refine Met.twi (cc := cX10_unload) (maxL := 2) (by decide) rfl (Nat.le_of_ble_eq_true rfl) ?_
  intro p e s m args below meth c Q hx hb hml hown hts hK hT hret ls hl
  have hl : lv_has ls 2 [(0, .ref p0)] := hl
  have hfl26 := hts (.fieldLink RX10 26 "PlyPlates" "cases" "LPlyPlates$Cases;") (by decide +kernel)
  have hin10 : ∀ w ∈ u_ws RX10 TX10 11, w ∈ wsX10_unload := by decide +kernel
  have hfl254 := hts (.fieldLink RX10 254 "PlyPlates$Cases" "size" "I") (by decide +kernel)
  have hin1 : ∀ w ∈ u_ws RX1 TX1 2, w ∈ wsX10_unload := by decide +kernel
  have hc0 : (0 : Int32).toInt = 0 := rfl
  have main : ∀ (H : Heap) (locs : List Loc), TW D cy κ G H → va_S (AA κ) s.heap H locs → W p l e rmX10_unload s m args below meth c H locs 0 0 Q (F0 m 0 ls []) := by
    intro H locs hT hS
    refine lv_aload_n hx hb dX10_unload_0 rfl (lv_at hl 0 rfl) ?_
    refine gf_10_2 hx hb hts hin10 hown hK hT k0 hfl26 dX10_unload_1 (fun a1 ka1 fva1 => ?_)
    refine gf_1_1 hx hb hts hin1 hown hK hT ka1 hfl254 dX10_unload_4 (fun x2 kx2 fvx2 => ?_)
    have gx2 := congrArg Int32.toInt kx2.1
    refine lv_istore_n (lv' := [(1, .int x2), (0, .ref p0)]) hx hb dX10_unload_7 rfl hl (by decide) rfl (fun ls hl => ?_)
    refine lv_aload_n hx hb dX10_unload_8 rfl (lv_at hl 1 rfl) ?_
    refine gf_10_2 hx hb hts hin10 hown hK hT k0 hfl26 dX10_unload_9 (fun a3 ka3 fva3 => ?_)
    obtain rfl : a1 = a3 := eRef (FV.eq fva1 fva3)
    refine lv_iconst (v := (0 : Int32)) hx hb dX10_unload_12 (by decide) ?_
    refine pc_1_1 hx hb hts hin1 hown hK hT hS ka1 hfl254 dX10_unload_13 (by omega) (fun H locs hT hS => ?_)
    have hg2_3 : ((cG G 2 (0 : Int32)).1 2).toInt = (0 : Int32).toInt := rfl
    refine lv_iload_n hx hb dX10_unload_16 rfl (lv_at hl 0 rfl) ?_
    exact hret H locs ls 17 x2 (cG G 2 (0 : Int32)) dX10_unload_17 ⟨by omega, (0 : Int32), rfl, rfl⟩ hT hS
  exact main s.heap [] hT va_S.rf
