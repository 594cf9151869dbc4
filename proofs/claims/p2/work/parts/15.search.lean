abbrev rmX8_wayAt : Room := { frames := 0, cells := 0, slots := 0, locals := 0 }
set_option maxHeartbeats 4000000 in
set_option maxRecDepth 100000 in
theorem c_X8_wayAt (l : Launch) (D : va_G) (cy : Nat → ClassId) (κ : Nat → Nat) (G : Gh) (p0 : Int32) (p1 : Int32) (p2 : Int32) : Met l yX8_wayAt wsX8_wayAt rmX8_wayAt (va_Pc [.int p0, .int p1, .int p2] (fun U => WW D cy κ G U)) (va_Qi (fun (r : Int32) (u : Gh) => u = G ∧ (0 ≤ r.toInt ∧ r.toInt ≤ 3)) (fun u t => WW D cy κ u t) (AA κ)) 0 0 (AA κ) := by
  refine Met.twi (cc := cX8_wayAt) (maxL := 3) (by decide) rfl (Nat.le_of_ble_eq_true rfl) ?_
  intro p e s m args below meth c Q hx hb hml hown hts hK hT hret ls hl
  have hl : lv_has ls 3 [(0, .int p0), (1, .int p1), (2, .int p2)] := hl
  have hc2 : (2 : Int32).toInt = 2 := rfl
  have hc1 : (1 : Int32).toInt = 1 := rfl
  have hc3 : (3 : Int32).toInt = 3 := rfl
  have main : ∀ (H : Heap) (locs : List Loc), TW D cy κ G H → va_S (AA κ) s.heap H locs → W p l e rmX8_wayAt s m args below meth c H locs 0 0 Q (F0 m 0 ls []) := by
    intro H locs hT hS
    refine lv_iload_n hx hb dX8_wayAt_0 rfl (lv_at hl 0 rfl) ?_
    refine lv_iconst (v := (2 : Int32)) hx hb dX8_wayAt_1 (by decide) ?_
    refine lv_iload_n hx hb dX8_wayAt_2 rfl (lv_at hl 1 rfl) ?_
    refine lv_iconst (v := (1 : Int32)) hx hb dX8_wayAt_3 (by decide) ?_
    refine lv_isub hx hb dX8_wayAt_4 ?_
    refine lv_topi (fun x1 ex1 => ?_)
    have tx1 : x1.toInt = (p1 - (1 : Int32)).toInt := by rw [ex1]
    refine lv_iload_n hx hb dX8_wayAt_5 rfl (lv_at hl 2 rfl) ?_
    refine lv_isub hx hb dX8_wayAt_6 ?_
    refine lv_topi (fun x2 ex2 => ?_)
    have tx2 : x2.toInt = (x1 - p2).toInt := by rw [ex2]
    refine lv_imul hx hb dX8_wayAt_7 ?_
    refine lv_topi (fun x3 ex3 => ?_)
    have tx3 : x3.toInt = ((2 : Int32) * x2).toInt := by rw [ex3]
    refine lv_ishr hx hb dX8_wayAt_8 ?_
    refine lv_topi (fun x4 _ => ?_)
    refine lv_iconst (v := (3 : Int32)) hx hb dX8_wayAt_9 (by decide) ?_
    refine lv_iand hx hb dX8_wayAt_10 ?_
    refine lv_topi (fun x5 ex5 => ?_)
    have tx5 : 0 ≤ x5.toInt ∧ x5.toInt ≤ 3 := by rw [ex5]; exact ti_and3 x4
    exact hret H locs ls 11 x5 G dX8_wayAt_11 ⟨rfl, by omega⟩ hT hS
  exact main s.heap [] hT va_S.rf

abbrev rmX8_keepsRules : Room := { frames := 2, cells := 0, slots := 0, locals := 47 }
set_option maxHeartbeats 4000000 in
set_option maxRecDepth 100000 in
theorem c_X8_keepsRules (l : Launch) (D : va_G) (cy : Nat → ClassId) (κ : Nat → Nat) (G : Gh) (p0 : Nat) (k0 : κ p0 = 9) (p1 : Int32) (q1 : 0 ≤ p1.toInt ∧ p1.toInt ≤ 2) (p2 : Int32) (p3 : Int32) : Met l yX8_keepsRules wsX8_keepsRules rmX8_keepsRules (va_Pc [.ref p0, .int p1, .int p2, .int p3] (fun U => WW D cy κ G U)) (va_Qi (fun (r : Int32) (u : Gh) => lowG u G ∧ (0 ≤ r.toInt ∧ r.toInt ≤ 1)) (fun u t => WW D cy κ u t) (AA κ)) 0 0 (AA κ) := by
  refine Met.twz (cc := cX8_keepsRules) (maxL := 5) (by decide) rfl (Nat.le_of_ble_eq_true rfl) ?_
  intro p e s m args below meth c Q hx hb hml hown hts hK hT hret ls hl
  have hl : lv_has ls 5 [(0, .ref p0), (1, .int p1), (2, .int p2), (3, .int p3)] := hl
  have hfl12 := hts (.fieldLink RX8 12 "PlyPlates$Search" "tried" "LPlyPlates$Plate;") (by decide +kernel)
  have hin8 : ∀ w ∈ u_ws RX8 TX8 7, w ∈ wsX8_keepsRules := by decide +kernel
  have hc0 : (0 : Int32).toInt = 0 := rfl
  have hfl53 := hts (.fieldLink RX8 53 "PlyPlates$Plate" "size" "I") (by decide +kernel)
  have hin7 : ∀ w ∈ u_ws RX7 TX7 2, w ∈ wsX8_keepsRules := by decide +kernel
  have hc1 : (1 : Int32).toInt = 1 := rfl
  have hfl32 := hts (.fieldLink RX8 32 "PlyPlates$Search" "layRules" "LPlyPlates$LayRules;") (by decide +kernel)
  have hcm1 : (-1 : Int32).toInt = -1 := rfl
  have main : ∀ (H : Heap) (locs : List Loc), TW D cy κ G H → va_S (AA κ) s.heap H locs → W p l e rmX8_keepsRules s m args below meth c H locs 0 0 Q (F0 m 0 ls []) := by
    intro H locs hT hS
    refine lv_aload_n hx hb dX8_keepsRules_0 rfl (lv_at hl 0 rfl) ?_
    refine gf_8_3 hx hb hts hin8 hown hK hT k0 hfl12 dX8_keepsRules_1 (fun a1 ka1 fva1 => ?_)
    refine lv_iconst (v := (0 : Int32)) hx hb dX8_keepsRules_4 (by decide) ?_
    refine pg_7_1 hx hb hts hin7 hown hK hT hS ka1 hfl53 dX8_keepsRules_5 (by omega) (fun H locs hT hS => ?_)
    refine lv_iconst (v := (0 : Int32)) hx hb dX8_keepsRules_8 (by decide) ?_
    refine lv_istore (lv' := [(4, .int (0 : Int32)), (0, .ref p0), (1, .int p1), (2, .int p2), (3, .int p3)]) hx hb dX8_keepsRules_9 hl (by decide) rfl (fun ls hl => ?_)
    have L11 : ∀ (nn : Nat) (H : Heap) (locs : List Loc) (ls : Array Slot) (u2 : Gh) (x3 : Int32), (nn = (2147483647 - x3.toInt).toNat) → (lowG u2 G) → (TW D cy κ u2 H) → (va_S (AA κ) s.heap H locs) → (lv_has ls 5 [(4, .int x3), (0, .ref p0), (1, .int p1), (2, .int p2), (3, .int p3)]) → (0 ≤ x3.toInt) → W p l e rmX8_keepsRules s m args below meth c H locs 0 0 Q (F0 m 11 ls []) := by
      intro nn
      induction nn using Nat.strongRecOn with
      | _ nn ih11 =>
        intro H locs ls u2 x3 hnn lu2 hT hS hl fL11_0
        refine lv_iload hx hb dX8_keepsRules_11 (lv_at hl 0 rfl) ?_
        refine lv_iload_n hx hb dX8_keepsRules_13 rfl (lv_at hl 4 rfl) ?_
        refine tb_icmp_ge (tgt := 39) hx hb dX8_keepsRules_14 (by decide) (fun c4 => ?_) (fun c4 => ?_)
        · skip
          refine lv_iload_n hx hb dX8_keepsRules_39 rfl (lv_at hl 4 rfl) ?_
          refine lv_iconst (v := (1 : Int32)) hx hb dX8_keepsRules_40 (by decide) ?_
          refine lv_isub hx hb dX8_keepsRules_41 ?_
          refine lv_topi (fun x5 ex5 => ?_)
          have tx5 : x5.toInt = (p3 - (1 : Int32)).toInt := by rw [ex5]
          refine lv_istore (lv' := [(4, .int x5), (0, .ref p0), (1, .int p1), (2, .int p2), (3, .int p3)]) hx hb dX8_keepsRules_42 hl (by decide) rfl (fun ls hl => ?_)
          have L44 : ∀ (nn : Nat) (H : Heap) (locs : List Loc) (ls : Array Slot) (u6 : Gh) (x7 : Int32), (nn = (x7.toInt + 2147483648).toNat) → (lowG u6 G) → (TW D cy κ u6 H) → (va_S (AA κ) s.heap H locs) → (lv_has ls 5 [(4, .int x7), (0, .ref p0), (1, .int p1), (2, .int p2), (3, .int p3)]) → W p l e rmX8_keepsRules s m args below meth c H locs 0 0 Q (F0 m 44 ls []) := by
            intro nn
            induction nn using Nat.strongRecOn with
            | _ nn ih44 =>
              intro H locs ls u6 x7 hnn lu6 hT hS hl 
              refine lv_iload hx hb dX8_keepsRules_44 (lv_at hl 0 rfl) ?_
              refine tb_if_lt (tgt := 71) hx hb dX8_keepsRules_46 (by decide) (fun c8 => ?_) (fun c8 => ?_)
              · skip
                refine lv_aload_n hx hb dX8_keepsRules_71 rfl (lv_at hl 1 rfl) ?_
                refine gf_8_1 hx hb hts hin8 hown hK hT k0 hfl32 dX8_keepsRules_72 (fun a9 ka9 fva9 => ?_)
                refine lv_aload_n hx hb dX8_keepsRules_75 rfl (lv_at hl 1 rfl) ?_
                refine gf_8_3 hx hb hts hin8 hown hK hT k0 hfl12 dX8_keepsRules_76 (fun a10 ka10 fva10 => ?_)
                refine tw_Vi (q := (RX4, TX4, 3)) (As := [.ref a10]) (rest := []) ⟨hx, hb, hml, hown, hts⟩ (c_X4_firstUnkept l D cy κ u6 a9 ka9 a10 ka10) (cwV 1 hts gX8_keepsRules_X4_firstUnkept rfl rfl rfl (by decide +kernel) ⟨Nat.le_of_ble_eq_true rfl, Nat.le_of_ble_eq_true rfl⟩) hK hT hS ka9 (by decide) rfl rfl hl.1 rfl (Nat.le_of_ble_eq_true rfl) dX8_keepsRules_79 ⟨Nat.zero_le _, Nat.zero_le _⟩ (fun x11 u12 H locs hpu12 hT hS => ?_)
                obtain ⟨huu12, qu12⟩ := hpu12
                rw [huu12] at hT
                refine tb_if_ne (tgt := 89) hx hb dX8_keepsRules_82 (by decide) (fun c13 => ?_) (fun c13 => ?_)
                · skip
                  refine lv_iconst (v := (0 : Int32)) hx hb dX8_keepsRules_89 (by decide) ?_
                  exact hret H locs ls 90 (0 : Int32) u6 dX8_keepsRules_90 (by omega) ⟨lu6, by omega⟩ hT hS
                · skip
                  refine lv_iconst (v := (1 : Int32)) hx hb dX8_keepsRules_85 (by decide) ?_
                  refine lv_goto (tgt := 90) hx hb dX8_keepsRules_86 (by decide) ?_
                  exact hret H locs ls 90 (1 : Int32) u6 dX8_keepsRules_90 (by omega) ⟨lu6, by omega⟩ hT hS
              · skip
                refine lv_aload_n hx hb dX8_keepsRules_49 rfl (lv_at hl 1 rfl) ?_
                refine gf_8_3 hx hb hts hin8 hown hK hT k0 hfl12 dX8_keepsRules_50 (fun a14 ka14 fva14 => ?_)
                refine lv_iload_n hx hb dX8_keepsRules_53 rfl (lv_at hl 2 rfl) ?_
                refine lv_iload_n hx hb dX8_keepsRules_54 rfl (lv_at hl 3 rfl) ?_
                refine lv_iload_n hx hb dX8_keepsRules_55 rfl (lv_at hl 4 rfl) ?_
                refine lv_iload hx hb dX8_keepsRules_56 (lv_at hl 0 rfl) ?_
                refine tw_Si (As := [.int p2, .int p3, .int x7]) (rest := [.int p1, .ref a14]) ⟨hx, hb, hml, hown, hts⟩ (c_X8_wayAt l D cy κ u6 p2 p3 x7) (va_cwS 3 hts gX8_keepsRules_X8_wayAt rfl rfl rfl (by decide +kernel) ⟨Nat.le_of_ble_eq_true rfl, Nat.le_of_ble_eq_true rfl⟩) hK hT hS rfl hl.1 rfl (Nat.le_of_ble_eq_true rfl) dX8_keepsRules_58 ⟨Nat.zero_le _, Nat.zero_le _⟩ (fun x15 u16 H locs hpu16 hT hS => ?_)
                obtain ⟨huu16, qu16⟩ := hpu16
                rw [huu16] at hT
                refine lv_iconst (v := (1 : Int32)) hx hb dX8_keepsRules_61 (by decide) ?_
                refine tw_Vv (q := (RX7, TX7, 2)) (As := [.int p1, .int x15, .int (1 : Int32)]) (rest := []) ⟨hx, hb, hml, hown, hts⟩ (c_X7_put l D cy κ u6 a14 ka14 p1 (by omega) x15 (1 : Int32)) (cwV 3 hts gX8_keepsRules_X7_put rfl rfl rfl (by decide +kernel) ⟨Nat.le_of_ble_eq_true rfl, Nat.le_of_ble_eq_true rfl⟩) hK hT hS ka14 (by decide) rfl rfl hl.1 rfl (Nat.le_of_ble_eq_true rfl) dX8_keepsRules_62 ⟨Nat.zero_le _, Nat.zero_le _⟩ (fun u18 H locs hpu18 hT hS => ?_)
                obtain ⟨qu18, ru18⟩ := hpu18
                obtain ⟨x19, ex19⟩ : ∃ z : Int32, z = x7 + (-1 : Int32) := ⟨_, rfl⟩
                refine lv_iinc (v := x19) (lv' := [(4, .int x19), (0, .ref p0), (1, .int p1), (2, .int p2), (3, .int p3)]) hx hb dX8_keepsRules_65 hl (k := 0) rfl (by rw [ex19]; rfl) (by decide) rfl (fun ls hl => ?_)
                have tx19 : x19.toInt = x7.toInt + (-1) := by rw [ex19, ti_add (by have := i32b x7; have := i32b p1; have := i32b p2; have := i32b p3; omega), hcm1]
                refine lv_goto (tgt := 44) hx hb dX8_keepsRules_68 (by decide) ?_
                exact ih44 ((x19.toInt + 2147483648).toNat) (by have := i32b x19; have := i32b p1; have := i32b p2; have := i32b p3; omega) H locs ls u18 x19 rfl (qu18.tr lu6) hT hS (lv_sub hl [0, 1, 2, 3, 4] rfl) 
          exact L44 _ H locs ls u2 x5 rfl lu2 hT hS (lv_sub hl [0, 1, 2, 3, 4] rfl) 
        · skip
          refine lv_aload_n hx hb dX8_keepsRules_17 rfl (lv_at hl 1 rfl) ?_
          refine gf_8_3 hx hb hts hin8 hown hK hT k0 hfl12 dX8_keepsRules_18 (fun a20 ka20 fva20 => ?_)
          refine lv_iload_n hx hb dX8_keepsRules_21 rfl (lv_at hl 2 rfl) ?_
          refine lv_iload_n hx hb dX8_keepsRules_22 rfl (lv_at hl 3 rfl) ?_
          refine lv_iload_n hx hb dX8_keepsRules_23 rfl (lv_at hl 4 rfl) ?_
          refine lv_iload hx hb dX8_keepsRules_24 (lv_at hl 0 rfl) ?_
          refine tw_Si (As := [.int p2, .int p3, .int x3]) (rest := [.int p1, .ref a20]) ⟨hx, hb, hml, hown, hts⟩ (c_X8_wayAt l D cy κ u2 p2 p3 x3) (va_cwS 3 hts gX8_keepsRules_X8_wayAt rfl rfl rfl (by decide +kernel) ⟨Nat.le_of_ble_eq_true rfl, Nat.le_of_ble_eq_true rfl⟩) hK hT hS rfl hl.1 rfl (Nat.le_of_ble_eq_true rfl) dX8_keepsRules_26 ⟨Nat.zero_le _, Nat.zero_le _⟩ (fun x21 u22 H locs hpu22 hT hS => ?_)
          obtain ⟨huu22, qu22⟩ := hpu22
          rw [huu22] at hT
          refine lv_iconst (v := (1 : Int32)) hx hb dX8_keepsRules_29 (by decide) ?_
          refine tw_Vv (q := (RX7, TX7, 2)) (As := [.int p1, .int x21, .int (1 : Int32)]) (rest := []) ⟨hx, hb, hml, hown, hts⟩ (c_X7_put l D cy κ u2 a20 ka20 p1 (by omega) x21 (1 : Int32)) (cwV 3 hts gX8_keepsRules_X7_put rfl rfl rfl (by decide +kernel) ⟨Nat.le_of_ble_eq_true rfl, Nat.le_of_ble_eq_true rfl⟩) hK hT hS ka20 (by decide) rfl rfl hl.1 rfl (Nat.le_of_ble_eq_true rfl) dX8_keepsRules_30 ⟨Nat.zero_le _, Nat.zero_le _⟩ (fun u24 H locs hpu24 hT hS => ?_)
          obtain ⟨qu24, ru24⟩ := hpu24
          obtain ⟨x25, ex25⟩ : ∃ z : Int32, z = x3 + (1 : Int32) := ⟨_, rfl⟩
          refine lv_iinc (v := x25) (lv' := [(4, .int x25), (0, .ref p0), (1, .int p1), (2, .int p2), (3, .int p3)]) hx hb dX8_keepsRules_33 hl (k := 0) rfl (by rw [ex25]; rfl) (by decide) rfl (fun ls hl => ?_)
          have tx25 : x25.toInt = x3.toInt + 1 := by rw [ex25, ti_add (by have := i32b x3; have := i32b p1; have := i32b p2; have := i32b p3; omega), hc1]
          refine lv_goto (tgt := 11) hx hb dX8_keepsRules_36 (by decide) ?_
          exact ih11 ((2147483647 - x25.toInt).toNat) (by have := i32b x25; have := i32b p1; have := i32b p2; have := i32b p3; omega) H locs ls u24 x25 rfl (qu24.tr lu2) hT hS (lv_sub hl [0, 1, 2, 3, 4] rfl) (by omega)
    exact L11 _ H locs ls (szG G a1 (0 : Int32)) (0 : Int32) rfl ((lowG.sz G a1 (0 : Int32)).tr (lowG.rf G)) hT hS (lv_sub hl [0, 1, 2, 3, 4] rfl) (by omega)
  exact main s.heap [] hT va_S.rf

abbrev rmX8_doesLotHold : Room := { frames := 4, cells := 0, slots := 0, locals := 108 }
set_option maxHeartbeats 4000000 in
set_option maxRecDepth 100000 in
theorem c_X8_doesLotHold (l : Launch) (D : va_G) (cy : Nat → ClassId) (κ : Nat → Nat) (G : Gh) (p0 : Nat) (k0 : κ p0 = 9) (p1 : Int32) (q1 : 0 ≤ p1.toInt ∧ p1.toInt ≤ 2) : Met l yX8_doesLotHold wsX8_doesLotHold rmX8_doesLotHold (va_Pc [.ref p0, .int p1] (fun U => WW D cy κ G U)) (va_Qi (fun (r : Int32) (u : Gh) => lowG u G ∧ (0 ≤ r.toInt ∧ r.toInt ≤ 1)) (fun u t => WW D cy κ u t) (AA κ)) 0 0 (AA κ) := by
  refine Met.twz (cc := cX8_doesLotHold) (maxL := 4) (by decide) rfl (Nat.le_of_ble_eq_true rfl) ?_
  intro p e s m args below meth c Q hx hb hml hown hts hK hT hret ls hl
  have hl : lv_has ls 4 [(0, .ref p0), (1, .int p1)] := hl
  have hfl18 := hts (.fieldLink RX8 18 "PlyPlates$Search" "gathered" "LPlyPlates$Plate;") (by decide +kernel)
  have hin8 : ∀ w ∈ u_ws RX8 TX8 7, w ∈ wsX8_doesLotHold := by decide +kernel
  have hc0 : (0 : Int32).toInt = 0 := rfl
  have hfl53 := hts (.fieldLink RX8 53 "PlyPlates$Plate" "size" "I") (by decide +kernel)
  have hin7 : ∀ w ∈ u_ws RX7 TX7 2, w ∈ wsX8_doesLotHold := by decide +kernel
  have hc4 : (4 : Int32).toInt = 4 := rfl
  have hfl28 := hts (.fieldLink RX8 28 "PlyPlates$Search" "flat" "LPlyPlates$Flat;") (by decide +kernel)
  have hfl36 := hts (.fieldLink RX8 36 "PlyPlates$Search" "cases" "LPlyPlates$Cases;") (by decide +kernel)
  have hfl81 := hts (.fieldLink RX8 81 "PlyPlates$Cases" "size" "I") (by decide +kernel)
  have hin1 : ∀ w ∈ u_ws RX1 TX1 2, w ∈ wsX8_doesLotHold := by decide +kernel
  have hc1 : (1 : Int32).toInt = 1 := rfl
  have hfl84 := hts (.fieldLink RX8 84 "PlyPlates$Cases" "pulls" "[[I") (by decide +kernel)
  have hc2 : (2 : Int32).toInt = 2 := rfl
  have hfl21 := hts (.fieldLink RX8 21 "PlyPlates$Search" "perWay" "[I") (by decide +kernel)
  have main : ∀ (H : Heap) (locs : List Loc), TW D cy κ G H → va_S (AA κ) s.heap H locs → W p l e rmX8_doesLotHold s m args below meth c H locs 0 0 Q (F0 m 0 ls []) := by
    intro H locs hT hS
    refine lv_aload_n hx hb dX8_doesLotHold_0 rfl (lv_at hl 0 rfl) ?_
    refine gf_8_4 hx hb hts hin8 hown hK hT k0 hfl18 dX8_doesLotHold_1 (fun a1 ka1 fva1 => ?_)
    refine lv_iconst (v := (0 : Int32)) hx hb dX8_doesLotHold_4 (by decide) ?_
    refine pg_7_1 hx hb hts hin7 hown hK hT hS ka1 hfl53 dX8_doesLotHold_5 (by omega) (fun H locs hT hS => ?_)
    refine lv_iconst (v := (0 : Int32)) hx hb dX8_doesLotHold_8 (by decide) ?_
    refine lv_istore_n (lv' := [(2, .int (0 : Int32)), (0, .ref p0), (1, .int p1)]) hx hb dX8_doesLotHold_9 rfl hl (by decide) rfl (fun ls hl => ?_)
    have L10 : ∀ (nn : Nat) (H : Heap) (locs : List Loc) (ls : Array Slot) (u2 : Gh) (x3 : Int32), (nn = (2147483647 - x3.toInt).toNat) → (lowG u2 G) → (TW D cy κ u2 H) → (va_S (AA κ) s.heap H locs) → (lv_has ls 4 [(2, .int x3), (0, .ref p0), (1, .int p1)]) → (0 ≤ x3.toInt ∧ x3.toInt ≤ 4) → W p l e rmX8_doesLotHold s m args below meth c H locs 0 0 Q (F0 m 10 ls []) := by
      intro nn
      induction nn using Nat.strongRecOn with
      | _ nn ih10 =>
        intro H locs ls u2 x3 hnn lu2 hT hS hl fL10_0
        refine lv_iload_n hx hb dX8_doesLotHold_10 rfl (lv_at hl 0 rfl) ?_
        refine lv_iconst (v := (4 : Int32)) hx hb dX8_doesLotHold_11 (by decide) ?_
        refine tb_icmp_ge (tgt := 47) hx hb dX8_doesLotHold_12 (by decide) (fun c4 => ?_) (fun c4 => ?_)
        · skip
          refine lv_aload_n hx hb dX8_doesLotHold_47 rfl (lv_at hl 1 rfl) ?_
          refine gf_8_0 hx hb hts hin8 hown hK hT k0 hfl28 dX8_doesLotHold_48 (fun a5 ka5 fva5 => ?_)
          refine lv_aload_n hx hb dX8_doesLotHold_51 rfl (lv_at hl 1 rfl) ?_
          refine gf_8_4 hx hb hts hin8 hown hK hT k0 hfl18 dX8_doesLotHold_52 (fun a6 ka6 fva6 => ?_)
          refine tw_Vv (q := (RX2, TX2, 13)) (As := [.ref a6]) (rest := []) ⟨hx, hb, hml, hown, hts⟩ (c_X2_prepare l D cy κ u2 a5 ka5 a6 ka6) (cwV 1 hts gX8_doesLotHold_X2_prepare rfl rfl rfl (by decide +kernel) ⟨Nat.le_of_ble_eq_true rfl, Nat.le_of_ble_eq_true rfl⟩) hK hT hS ka5 (by decide) rfl rfl hl.1 rfl (Nat.le_of_ble_eq_true rfl) dX8_doesLotHold_55 ⟨Nat.zero_le _, Nat.zero_le _⟩ (fun u8 H locs hpu8 hT hS => ?_)
          obtain ⟨huu8, qu8⟩ := hpu8
          rw [huu8] at hT
          refine lv_iconst (v := (0 : Int32)) hx hb dX8_doesLotHold_58 (by decide) ?_
          refine lv_istore_n (lv' := [(2, .int (0 : Int32)), (0, .ref p0), (1, .int p1)]) hx hb dX8_doesLotHold_59 rfl hl (by decide) rfl (fun ls hl => ?_)
          have L60 : ∀ (nn : Nat) (H : Heap) (locs : List Loc) (ls : Array Slot) (u9 : Gh) (x10 : Int32), (nn = (2147483647 - x10.toInt).toNat) → (lowG u9 G) → (TW D cy κ u9 H) → (va_S (AA κ) s.heap H locs) → (lv_has ls 4 [(2, .int x10), (0, .ref p0), (1, .int p1)]) → (0 ≤ x10.toInt ∧ x10.toInt ≤ 4) → W p l e rmX8_doesLotHold s m args below meth c H locs 0 0 Q (F0 m 60 ls []) := by
            intro nn
            induction nn using Nat.strongRecOn with
            | _ nn ih60 =>
              intro H locs ls u9 x10 hnn lu9 hT hS hl fL60_0
              refine lv_iload_n hx hb dX8_doesLotHold_60 rfl (lv_at hl 0 rfl) ?_
              refine lv_aload_n hx hb dX8_doesLotHold_61 rfl (lv_at hl 1 rfl) ?_
              refine gf_8_2 hx hb hts hin8 hown hK hT k0 hfl36 dX8_doesLotHold_62 (fun a11 ka11 fva11 => ?_)
              refine gf_1_1 hx hb hts hin1 hown hK hT ka11 hfl81 dX8_doesLotHold_65 (fun x12 kx12 fvx12 => ?_)
              have gx12 := congrArg Int32.toInt kx12.1
              refine tb_icmp_ge (tgt := 112) hx hb dX8_doesLotHold_68 (by decide) (fun c13 => ?_) (fun c13 => ?_)
              · skip
                refine lv_iconst (v := (1 : Int32)) hx hb dX8_doesLotHold_112 (by decide) ?_
                exact hret H locs ls 113 (1 : Int32) u9 dX8_doesLotHold_113 (by omega) ⟨lu9, by omega⟩ hT hS
              · skip
                refine lv_aload_n hx hb dX8_doesLotHold_71 rfl (lv_at hl 1 rfl) ?_
                refine gf_8_2 hx hb hts hin8 hown hK hT k0 hfl36 dX8_doesLotHold_72 (fun a14 ka14 fva14 => ?_)
                obtain rfl : a11 = a14 := eRef (FV.eq fva11 fva14)
                refine gf_1_0 hx hb hts hin1 hown hK hT ka11 hfl84 dX8_doesLotHold_75 (fun a15 ka15 fva15 => ?_)
                refine lv_iload_n hx hb dX8_doesLotHold_78 rfl (lv_at hl 0 rfl) ?_
                refine tw_ra (K := 22) (t := 5) (ty := .array .int) (n := 4) (P := fun b => κ b = 1003) hx hb hK hT ka15 (by decide) rfl rfl rfl rfl (by omega) rfl dX8_doesLotHold_79 (fun a16 ka16 fva16 => ?_)
                refine lv_astore_n (lv' := [(3, .ref a16), (2, .int x10), (0, .ref p0), (1, .int p1)]) hx hb dX8_doesLotHold_80 rfl hl (by decide) rfl (fun ls hl => ?_)
                refine lv_aload_n hx hb dX8_doesLotHold_81 rfl (lv_at hl 2 rfl) ?_
                refine gf_8_0 hx hb hts hin8 hown hK hT k0 hfl28 dX8_doesLotHold_82 (fun a17 ka17 fva17 => ?_)
                refine lv_aload_n hx hb dX8_doesLotHold_85 rfl (lv_at hl 2 rfl) ?_
                refine gf_8_4 hx hb hts hin8 hown hK hT k0 hfl18 dX8_doesLotHold_86 (fun a18 ka18 fva18 => ?_)
                refine lv_aload_n hx hb dX8_doesLotHold_89 rfl (lv_at hl 0 rfl) ?_
                refine lv_iconst (v := (0 : Int32)) hx hb dX8_doesLotHold_90 (by decide) ?_
                refine tw_ia (K := 1003) (n := 3) (P := fun _ => True) hx hb hK hT ka16 (by decide) rfl rfl (by omega) rfl dX8_doesLotHold_91 (fun x19 _ fvx19 => ?_)
                refine lv_aload_n hx hb dX8_doesLotHold_92 rfl (lv_at hl 0 rfl) ?_
                refine lv_iconst (v := (1 : Int32)) hx hb dX8_doesLotHold_93 (by decide) ?_
                refine tw_ia (K := 1003) (n := 3) (P := fun _ => True) hx hb hK hT ka16 (by decide) rfl rfl (by omega) rfl dX8_doesLotHold_94 (fun x20 _ fvx20 => ?_)
                refine lv_aload_n hx hb dX8_doesLotHold_95 rfl (lv_at hl 0 rfl) ?_
                refine lv_iconst (v := (2 : Int32)) hx hb dX8_doesLotHold_96 (by decide) ?_
                refine tw_ia (K := 1003) (n := 3) (P := fun _ => True) hx hb hK hT ka16 (by decide) rfl rfl (by omega) rfl dX8_doesLotHold_97 (fun x21 _ fvx21 => ?_)
                refine tw_Vi (q := (RX2, TX2, 13)) (As := [.ref a18, .int x19, .int x20, .int x21]) (rest := []) ⟨hx, hb, hml, hown, hts⟩ (c_X2_isHeld l D cy κ u9 a17 ka17 a18 ka18 x19 x20 x21) (cwV 4 hts gX8_doesLotHold_X2_isHeld rfl rfl rfl (by decide +kernel) ⟨Nat.le_of_ble_eq_true rfl, Nat.le_of_ble_eq_true rfl⟩) hK hT hS ka17 (by decide) rfl rfl hl.1 rfl (Nat.le_of_ble_eq_true rfl) dX8_doesLotHold_98 ⟨Nat.zero_le _, Nat.zero_le _⟩ (fun x22 u23 H locs hpu23 hT hS => ?_)
                obtain ⟨huu23, qu23⟩ := hpu23
                rw [huu23] at hT
                refine tb_if_ne (tgt := 106) hx hb dX8_doesLotHold_101 (by decide) (fun c24 => ?_) (fun c24 => ?_)
                · skip
                  obtain ⟨x25, ex25⟩ : ∃ z : Int32, z = x10 + (1 : Int32) := ⟨_, rfl⟩
                  refine lv_iinc (v := x25) (lv' := [(2, .int x25), (3, .ref a16), (0, .ref p0), (1, .int p1)]) hx hb dX8_doesLotHold_106 hl (k := 1) rfl (by rw [ex25]; rfl) (by decide) rfl (fun ls hl => ?_)
                  have tx25 : x25.toInt = x10.toInt + 1 := by rw [ex25, ti_add (by have := i32b x10; have := i32b p1; omega), hc1]
                  refine lv_goto (tgt := 60) hx hb dX8_doesLotHold_109 (by decide) ?_
                  exact ih60 ((2147483647 - x25.toInt).toNat) (by have := i32b x25; have := i32b p1; omega) H locs ls u9 x25 rfl lu9 hT hS (lv_sub hl [0, 2, 3] rfl) (by omega)
                · skip
                  refine lv_iconst (v := (0 : Int32)) hx hb dX8_doesLotHold_104 (by decide) ?_
                  exact hret H locs ls 105 (0 : Int32) u9 dX8_doesLotHold_105 (by omega) ⟨lu9, by omega⟩ hT hS
          exact L60 _ H locs ls u2 (0 : Int32) rfl lu2 hT hS (lv_sub hl [0, 1, 2] rfl) (by omega)
        · skip
          refine lv_aload_n hx hb dX8_doesLotHold_15 rfl (lv_at hl 1 rfl) ?_
          refine gf_8_5 hx hb hts hin8 hown hK hT k0 hfl21 dX8_doesLotHold_16 (fun a26 ka26 fva26 => ?_)
          refine lv_iload_n hx hb dX8_doesLotHold_19 rfl (lv_at hl 0 rfl) ?_
          refine tw_ia (K := 1004) (n := 4) (P := fun _ => True) hx hb hK hT ka26 (by decide) rfl rfl (by omega) rfl dX8_doesLotHold_20 (fun x27 _ fvx27 => ?_)
          have J41 : ∀ (H : Heap) (locs : List Loc) (ls : Array Slot) (u28 : Gh) , (lowG u28 G) → (TW D cy κ u28 H) → (va_S (AA κ) s.heap H locs) → (lv_has ls 4 [(2, .int x3), (0, .ref p0), (1, .int p1)]) → W p l e rmX8_doesLotHold s m args below meth c H locs 0 0 Q (F0 m 41 ls []) := by
            intro H locs ls u28 lu28 hT hS hl 
            obtain ⟨x29, ex29⟩ : ∃ z : Int32, z = x3 + (1 : Int32) := ⟨_, rfl⟩
            refine lv_iinc (v := x29) (lv' := [(2, .int x29), (0, .ref p0), (1, .int p1)]) hx hb dX8_doesLotHold_41 hl (k := 0) rfl (by rw [ex29]; rfl) (by decide) rfl (fun ls hl => ?_)
            have tx29 : x29.toInt = x3.toInt + 1 := by rw [ex29, ti_add (by have := i32b x3; have := i32b p1; omega), hc1]
            refine lv_goto (tgt := 10) hx hb dX8_doesLotHold_44 (by decide) ?_
            exact ih10 ((2147483647 - x29.toInt).toNat) (by have := i32b x29; have := i32b p1; omega) H locs ls u28 x29 rfl lu28 hT hS (lv_sub hl [0, 1, 2] rfl) (by omega)
          refine tb_if_le (tgt := 41) hx hb dX8_doesLotHold_21 (by decide) (fun c30 => ?_) (fun c30 => ?_)
          · skip
            exact J41 H locs ls u2 lu2 hT hS (lv_sub hl [0, 1, 2] rfl) 
          · skip
            refine lv_aload_n hx hb dX8_doesLotHold_24 rfl (lv_at hl 1 rfl) ?_
            refine gf_8_4 hx hb hts hin8 hown hK hT k0 hfl18 dX8_doesLotHold_25 (fun a31 ka31 fva31 => ?_)
            refine lv_iload_n hx hb dX8_doesLotHold_28 rfl (lv_at hl 2 rfl) ?_
            refine lv_iload_n hx hb dX8_doesLotHold_29 rfl (lv_at hl 0 rfl) ?_
            refine lv_iconst (v := (2 : Int32)) hx hb dX8_doesLotHold_30 (by decide) ?_
            refine lv_aload_n hx hb dX8_doesLotHold_31 rfl (lv_at hl 1 rfl) ?_
            refine gf_8_5 hx hb hts hin8 hown hK hT k0 hfl21 dX8_doesLotHold_32 (fun a32 ka32 fva32 => ?_)
            obtain rfl : a26 = a32 := eRef (FV.eq fva26 fva32)
            refine lv_iload_n hx hb dX8_doesLotHold_35 rfl (lv_at hl 0 rfl) ?_
            refine tw_ia (K := 1004) (n := 4) (P := fun _ => True) hx hb hK hT ka26 (by decide) rfl rfl (by omega) rfl dX8_doesLotHold_36 (fun x33 _ fvx33 => ?_)
            obtain rfl : x27 = x33 := eInt (AV.eq fvx27 fvx33)
            refine lv_imul hx hb dX8_doesLotHold_37 ?_
            refine lv_topi (fun x34 ex34 => ?_)
            have tx34 : x34.toInt = ((2 : Int32) * x27).toInt := by rw [ex34]
            refine tw_Vv (q := (RX7, TX7, 2)) (As := [.int p1, .int x3, .int x34]) (rest := []) ⟨hx, hb, hml, hown, hts⟩ (c_X7_put l D cy κ u2 a31 ka31 p1 (by omega) x3 x34) (cwV 3 hts gX8_doesLotHold_X7_put rfl rfl rfl (by decide +kernel) ⟨Nat.le_of_ble_eq_true rfl, Nat.le_of_ble_eq_true rfl⟩) hK hT hS ka31 (by decide) rfl rfl hl.1 rfl (Nat.le_of_ble_eq_true rfl) dX8_doesLotHold_38 ⟨Nat.zero_le _, Nat.zero_le _⟩ (fun u36 H locs hpu36 hT hS => ?_)
            obtain ⟨qu36, ru36⟩ := hpu36
            exact J41 H locs ls u36 (qu36.tr lu2) hT hS (lv_sub hl [0, 1, 2] rfl) 
    exact L10 _ H locs ls (szG G a1 (0 : Int32)) (0 : Int32) rfl ((lowG.sz G a1 (0 : Int32)).tr (lowG.rf G)) hT hS (lv_sub hl [0, 1, 2] rfl) (by omega)
  exact main s.heap [] hT va_S.rf

abbrev rmX8_holdsCases : Room := { frames := 5, cells := 0, slots := 0, locals := 131 }
set_option maxHeartbeats 4000000 in
set_option maxRecDepth 100000 in
theorem c_X8_holdsCases (l : Launch) (D : va_G) (cy : Nat → ClassId) (κ : Nat → Nat) (G : Gh) (p0 : Nat) (k0 : κ p0 = 9) (p1 : Int32) (q1 : 0 ≤ p1.toInt ∧ p1.toInt ≤ 2) (p2 : Int32) (p3 : Int32) : Met l yX8_holdsCases wsX8_holdsCases rmX8_holdsCases (va_Pc [.ref p0, .int p1, .int p2, .int p3] (fun U => WW D cy κ G U)) (va_Qi (fun (r : Int32) (u : Gh) => lowG u G ∧ (0 ≤ r.toInt ∧ r.toInt ≤ 1)) (fun u t => WW D cy κ u t) (AA κ)) 0 0 (AA κ) := by
  refine Met.twz (cc := cX8_holdsCases) (maxL := 5) (by decide) rfl (Nat.le_of_ble_eq_true rfl) ?_
  intro p e s m args below meth c Q hx hb hml hown hts hK hT hret ls hl
  have hl : lv_has ls 5 [(0, .ref p0), (1, .int p1), (2, .int p2), (3, .int p3)] := hl
  have hfl21 := hts (.fieldLink RX8 21 "PlyPlates$Search" "perWay" "[I") (by decide +kernel)
  have hin8 : ∀ w ∈ u_ws RX8 TX8 7, w ∈ wsX8_holdsCases := by decide +kernel
  have hc0 : (0 : Int32).toInt = 0 := rfl
  have hc6 : (6 : Int32).toInt = 6 := rfl
  have hc1 : (1 : Int32).toInt = 1 := rfl
  have hc2 : (2 : Int32).toInt = 2 := rfl
  have hfl25 := hts (.fieldLink RX8 25 "PlyPlates$Search" "known" "[I") (by decide +kernel)
  have main : ∀ (H : Heap) (locs : List Loc), TW D cy κ G H → va_S (AA κ) s.heap H locs → W p l e rmX8_holdsCases s m args below meth c H locs 0 0 Q (F0 m 0 ls []) := by
    intro H locs hT hS
    refine lv_aload_n hx hb dX8_holdsCases_0 rfl (lv_at hl 0 rfl) ?_
    refine gf_8_5 hx hb hts hin8 hown hK hT k0 hfl21 dX8_holdsCases_1 (fun a1 ka1 fva1 => ?_)
    refine lv_iconst (v := (0 : Int32)) hx hb dX8_holdsCases_4 (by decide) ?_
    refine tw_Sv (As := [.ref a1, .int (0 : Int32)]) (rest := []) ⟨hx, hb, hml, hown, hts⟩ (c_J7_fill_53178_1004 l D cy κ G a1 ka1 (0 : Int32)) (va_cwS 2 hts gX8_holdsCases_J7_fill_53178 rfl rfl rfl (by decide +kernel) ⟨Nat.le_of_ble_eq_true rfl, Nat.le_of_ble_eq_true rfl⟩) hK hT hS rfl hl.1 rfl (Nat.le_of_ble_eq_true rfl) dX8_holdsCases_5 ⟨Nat.zero_le _, Nat.zero_le _⟩ (fun u3 H locs hpu3 hT hS => ?_)
    obtain ⟨huu3, qu3⟩ := hpu3
    rw [huu3] at hT
    refine lv_iconst (v := (0 : Int32)) hx hb dX8_holdsCases_8 (by decide) ?_
    refine lv_istore (lv' := [(4, .int (0 : Int32)), (0, .ref p0), (1, .int p1), (2, .int p2), (3, .int p3)]) hx hb dX8_holdsCases_9 hl (by decide) rfl (fun ls hl => ?_)
    have L11 : ∀ (nn : Nat) (H : Heap) (locs : List Loc) (ls : Array Slot) (u4 : Gh) (x5 : Int32), (nn = (2147483647 - x5.toInt).toNat) → (lowG u4 G) → (TW D cy κ u4 H) → (va_S (AA κ) s.heap H locs) → (lv_has ls 5 [(4, .int x5), (0, .ref p0), (1, .int p1), (2, .int p2), (3, .int p3)]) → (0 ≤ x5.toInt) → W p l e rmX8_holdsCases s m args below meth c H locs 0 0 Q (F0 m 11 ls []) := by
      intro nn
      induction nn using Nat.strongRecOn with
      | _ nn ih11 =>
        intro H locs ls u4 x5 hnn lu4 hT hS hl fL11_0
        refine lv_iload hx hb dX8_holdsCases_11 (lv_at hl 0 rfl) ?_
        refine lv_iload_n hx hb dX8_holdsCases_13 rfl (lv_at hl 4 rfl) ?_
        refine tb_icmp_ge (tgt := 39) hx hb dX8_holdsCases_14 (by decide) (fun c6 => ?_) (fun c6 => ?_)
        · skip
          refine lv_aload_n hx hb dX8_holdsCases_39 rfl (lv_at hl 1 rfl) ?_
          refine gf_8_5 hx hb hts hin8 hown hK hT k0 hfl21 dX8_holdsCases_40 (fun a7 ka7 fva7 => ?_)
          refine lv_iconst (v := (0 : Int32)) hx hb dX8_holdsCases_43 (by decide) ?_
          refine tw_ia (K := 1004) (n := 4) (P := fun _ => True) hx hb hK hT ka7 (by decide) rfl rfl (by omega) rfl dX8_holdsCases_44 (fun x8 _ fvx8 => ?_)
          refine lv_bipush (v := (6 : Int32)) hx hb dX8_holdsCases_45 (by decide) ?_
          refine lv_imul hx hb dX8_holdsCases_47 ?_
          refine lv_topi (fun x9 ex9 => ?_)
          have tx9 : x9.toInt = (x8 * (6 : Int32)).toInt := by rw [ex9]
          refine lv_aload_n hx hb dX8_holdsCases_48 rfl (lv_at hl 1 rfl) ?_
          refine gf_8_5 hx hb hts hin8 hown hK hT k0 hfl21 dX8_holdsCases_49 (fun a10 ka10 fva10 => ?_)
          obtain rfl : a7 = a10 := eRef (FV.eq fva7 fva10)
          refine lv_iconst (v := (1 : Int32)) hx hb dX8_holdsCases_52 (by decide) ?_
          refine tw_ia (K := 1004) (n := 4) (P := fun _ => True) hx hb hK hT ka7 (by decide) rfl rfl (by omega) rfl dX8_holdsCases_53 (fun x11 _ fvx11 => ?_)
          refine lv_iadd hx hb dX8_holdsCases_54 ?_
          refine lv_topi (fun x12 ex12 => ?_)
          have tx12 : x12.toInt = (x9 + x11).toInt := by rw [ex12]
          refine lv_bipush (v := (6 : Int32)) hx hb dX8_holdsCases_55 (by decide) ?_
          refine lv_imul hx hb dX8_holdsCases_57 ?_
          refine lv_topi (fun x13 ex13 => ?_)
          have tx13 : x13.toInt = (x12 * (6 : Int32)).toInt := by rw [ex13]
          refine lv_aload_n hx hb dX8_holdsCases_58 rfl (lv_at hl 1 rfl) ?_
          refine gf_8_5 hx hb hts hin8 hown hK hT k0 hfl21 dX8_holdsCases_59 (fun a14 ka14 fva14 => ?_)
          obtain rfl : a7 = a14 := eRef (FV.eq fva7 fva14)
          refine lv_iconst (v := (2 : Int32)) hx hb dX8_holdsCases_62 (by decide) ?_
          refine tw_ia (K := 1004) (n := 4) (P := fun _ => True) hx hb hK hT ka7 (by decide) rfl rfl (by omega) rfl dX8_holdsCases_63 (fun x15 _ fvx15 => ?_)
          refine lv_iadd hx hb dX8_holdsCases_64 ?_
          refine lv_topi (fun x16 ex16 => ?_)
          have tx16 : x16.toInt = (x13 + x15).toInt := by rw [ex16]
          refine lv_istore (lv' := [(4, .int x16), (0, .ref p0), (1, .int p1), (2, .int p2), (3, .int p3)]) hx hb dX8_holdsCases_65 hl (by decide) rfl (fun ls hl => ?_)
          refine lv_iload hx hb dX8_holdsCases_67 (lv_at hl 0 rfl) ?_
          refine tb_if_lt (tgt := 82) hx hb dX8_holdsCases_69 (by decide) (fun c17 => ?_) (fun c17 => ?_)
          · skip
            refine lv_iconst (v := (0 : Int32)) hx hb dX8_holdsCases_82 (by decide) ?_
            exact hret H locs ls 83 (0 : Int32) u4 dX8_holdsCases_83 (by omega) ⟨lu4, by omega⟩ hT hS
          · skip
            refine lv_iload hx hb dX8_holdsCases_72 (lv_at hl 0 rfl) ?_
            refine lv_aload_n hx hb dX8_holdsCases_74 rfl (lv_at hl 1 rfl) ?_
            refine gf_8_6 hx hb hts hin8 hown hK hT k0 hfl25 dX8_holdsCases_75 (fun a18 ka18 fva18 => ?_)
            refine tw_len (K := 1216) (t := 0) (ty := .int) (n := 216) hx hb hK hT ka18 (by decide) rfl rfl rfl dX8_holdsCases_78 (fun x19 ex19 => ?_)
            have tx19 : x19.toInt = 216 := by rw [ex19]; rfl
            refine tb_icmp_lt (tgt := 84) hx hb dX8_holdsCases_79 (by decide) (fun c20 => ?_) (fun c20 => ?_)
            · skip
              refine lv_aload_n hx hb dX8_holdsCases_84 rfl (lv_at hl 1 rfl) ?_
              refine gf_8_6 hx hb hts hin8 hown hK hT k0 hfl25 dX8_holdsCases_85 (fun a21 ka21 fva21 => ?_)
              obtain rfl : a18 = a21 := eRef (FV.eq fva18 fva21)
              refine lv_iload hx hb dX8_holdsCases_88 (lv_at hl 0 rfl) ?_
              refine tw_ia (K := 1216) (n := 216) (P := fun _ => True) hx hb hK hT ka18 (by decide) rfl rfl (by omega) rfl dX8_holdsCases_90 (fun x22 _ fvx22 => ?_)
              have J114 : ∀ (H : Heap) (locs : List Loc) (ls : Array Slot) (u23 : Gh) , (lowG u23 G) → (TW D cy κ u23 H) → (va_S (AA κ) s.heap H locs) → (lv_has ls 5 [(4, .int x16), (0, .ref p0), (1, .int p1), (2, .int p2), (3, .int p3)]) → W p l e rmX8_holdsCases s m args below meth c H locs 0 0 Q (F0 m 114 ls []) := by
                intro H locs ls u23 lu23 hT hS hl 
                refine lv_aload_n hx hb dX8_holdsCases_114 rfl (lv_at hl 1 rfl) ?_
                refine gf_8_6 hx hb hts hin8 hown hK hT k0 hfl25 dX8_holdsCases_115 (fun a24 ka24 fva24 => ?_)
                refine lv_iload hx hb dX8_holdsCases_118 (lv_at hl 0 rfl) ?_
                refine tw_ia (K := 1216) (n := 216) (P := fun _ => True) hx hb hK hT ka24 (by decide) rfl rfl (by omega) rfl dX8_holdsCases_120 (fun x25 _ fvx25 => ?_)
                refine lv_iconst (v := (1 : Int32)) hx hb dX8_holdsCases_121 (by decide) ?_
                refine tb_icmp_ne (tgt := 129) hx hb dX8_holdsCases_122 (by decide) (fun c26 => ?_) (fun c26 => ?_)
                · skip
                  refine lv_iconst (v := (0 : Int32)) hx hb dX8_holdsCases_129 (by decide) ?_
                  exact hret H locs ls 130 (0 : Int32) u23 dX8_holdsCases_130 (by omega) ⟨lu23, by omega⟩ hT hS
                · skip
                  refine lv_iconst (v := (1 : Int32)) hx hb dX8_holdsCases_125 (by decide) ?_
                  refine lv_goto (tgt := 130) hx hb dX8_holdsCases_126 (by decide) ?_
                  exact hret H locs ls 130 (1 : Int32) u23 dX8_holdsCases_130 (by omega) ⟨lu23, by omega⟩ hT hS
              refine tb_if_ne (tgt := 114) hx hb dX8_holdsCases_91 (by decide) (fun c27 => ?_) (fun c27 => ?_)
              · skip
                exact J114 H locs ls u4 lu4 hT hS (lv_sub hl [0, 1, 2, 3, 4] rfl) 
              · skip
                refine lv_aload_n hx hb dX8_holdsCases_94 rfl (lv_at hl 1 rfl) ?_
                refine gf_8_6 hx hb hts hin8 hown hK hT k0 hfl25 dX8_holdsCases_95 (fun a28 ka28 fva28 => ?_)
                obtain rfl : a18 = a28 := eRef (FV.eq fva18 fva28)
                refine lv_iload hx hb dX8_holdsCases_98 (lv_at hl 0 rfl) ?_
                refine lv_aload_n hx hb dX8_holdsCases_100 rfl (lv_at hl 1 rfl) ?_
                refine lv_iload_n hx hb dX8_holdsCases_101 rfl (lv_at hl 2 rfl) ?_
                refine tw_Vi (q := (RX8, TX8, 7)) (As := [.int p1]) (rest := [.int x16, .ref a18]) ⟨hx, hb, hml, hown, hts⟩ (c_X8_doesLotHold l D cy κ u4 p0 k0 p1 (by omega)) (cwV 1 hts gX8_holdsCases_X8_doesLotHold rfl rfl rfl (by decide +kernel) ⟨Nat.le_of_ble_eq_true rfl, Nat.le_of_ble_eq_true rfl⟩) hK hT hS k0 (by decide) rfl rfl hl.1 rfl (Nat.le_of_ble_eq_true rfl) dX8_holdsCases_102 ⟨Nat.zero_le _, Nat.zero_le _⟩ (fun x29 u30 H locs hpu30 hT hS => ?_)
                obtain ⟨qu30, ru30⟩ := hpu30
                have J113 : ∀ (H : Heap) (locs : List Loc) (ls : Array Slot) (u31 : Gh) (x32 : Int32), (lowG u31 G) → (TW D cy κ u31 H) → (va_S (AA κ) s.heap H locs) → (lv_has ls 5 [(4, .int x16), (0, .ref p0), (1, .int p1), (2, .int p2), (3, .int p3)]) → (1 ≤ x32.toInt ∧ x32.toInt ≤ 2) → W p l e rmX8_holdsCases s m args below meth c H locs 0 0 Q (F0 m 113 ls [.int x32, .int x16, .ref a18]) := by
                  intro H locs ls u31 x32 lu31 hT hS hl fJ113_0
                  refine tw_ias (K := 1216) (n := 216) (P := fun _ => True) hx hb hK hT hS ka18 (by decide) rfl rfl (by omega) rfl trivial dX8_holdsCases_113 (fun H locs hT hS hq => ?_)
                  exact J114 H locs ls u31 lu31 hT hS (lv_sub hl [0, 1, 2, 3, 4] rfl) 
                refine tb_if_eq (tgt := 112) hx hb dX8_holdsCases_105 (by decide) (fun c33 => ?_) (fun c33 => ?_)
                · skip
                  refine lv_iconst (v := (2 : Int32)) hx hb dX8_holdsCases_112 (by decide) ?_
                  exact J113 H locs ls u30 (2 : Int32) (qu30.tr lu4) hT hS (lv_sub hl [0, 1, 2, 3, 4] rfl) (by omega)
                · skip
                  refine lv_iconst (v := (1 : Int32)) hx hb dX8_holdsCases_108 (by decide) ?_
                  refine lv_goto (tgt := 113) hx hb dX8_holdsCases_109 (by decide) ?_
                  exact J113 H locs ls u30 (1 : Int32) (qu30.tr lu4) hT hS (lv_sub hl [0, 1, 2, 3, 4] rfl) (by omega)
            · skip
              refine lv_iconst (v := (0 : Int32)) hx hb dX8_holdsCases_82 (by decide) ?_
              exact hret H locs ls 83 (0 : Int32) u4 dX8_holdsCases_83 (by omega) ⟨lu4, by omega⟩ hT hS
        · skip
          refine lv_aload_n hx hb dX8_holdsCases_17 rfl (lv_at hl 1 rfl) ?_
          refine gf_8_5 hx hb hts hin8 hown hK hT k0 hfl21 dX8_holdsCases_18 (fun a34 ka34 fva34 => ?_)
          refine lv_iload_n hx hb dX8_holdsCases_21 rfl (lv_at hl 3 rfl) ?_
          refine lv_iload_n hx hb dX8_holdsCases_22 rfl (lv_at hl 4 rfl) ?_
          refine lv_iload hx hb dX8_holdsCases_23 (lv_at hl 0 rfl) ?_
          refine tw_Si (As := [.int p2, .int p3, .int x5]) (rest := [.ref a34]) ⟨hx, hb, hml, hown, hts⟩ (c_X8_wayAt l D cy κ u4 p2 p3 x5) (va_cwS 3 hts gX8_holdsCases_X8_wayAt rfl rfl rfl (by decide +kernel) ⟨Nat.le_of_ble_eq_true rfl, Nat.le_of_ble_eq_true rfl⟩) hK hT hS rfl hl.1 rfl (Nat.le_of_ble_eq_true rfl) dX8_holdsCases_25 ⟨Nat.zero_le _, Nat.zero_le _⟩ (fun x35 u36 H locs hpu36 hT hS => ?_)
          obtain ⟨huu36, qu36⟩ := hpu36
          rw [huu36] at hT
          refine lv_dup2_11 hx hb dX8_holdsCases_28 rfl rfl ?_
          refine tw_ia (K := 1004) (n := 4) (P := fun _ => True) hx hb hK hT ka34 (by decide) rfl rfl (by omega) rfl dX8_holdsCases_29 (fun x37 _ fvx37 => ?_)
          refine lv_iconst (v := (1 : Int32)) hx hb dX8_holdsCases_30 (by decide) ?_
          refine lv_iadd hx hb dX8_holdsCases_31 ?_
          refine lv_topi (fun x38 ex38 => ?_)
          have tx38 : x38.toInt = (x37 + (1 : Int32)).toInt := by rw [ex38]
          refine tw_ias (K := 1004) (n := 4) (P := fun _ => True) hx hb hK hT hS ka34 (by decide) rfl rfl (by omega) rfl trivial dX8_holdsCases_32 (fun H locs hT hS hq => ?_)
          obtain ⟨x39, ex39⟩ : ∃ z : Int32, z = x5 + (1 : Int32) := ⟨_, rfl⟩
          refine lv_iinc (v := x39) (lv' := [(4, .int x39), (0, .ref p0), (1, .int p1), (2, .int p2), (3, .int p3)]) hx hb dX8_holdsCases_33 hl (k := 0) rfl (by rw [ex39]; rfl) (by decide) rfl (fun ls hl => ?_)
          have tx39 : x39.toInt = x5.toInt + 1 := by rw [ex39, ti_add (by have := i32b x5; have := i32b p1; have := i32b p2; have := i32b p3; omega), hc1]
          refine lv_goto (tgt := 11) hx hb dX8_holdsCases_36 (by decide) ?_
          exact ih11 ((2147483647 - x39.toInt).toNat) (by have := i32b x39; have := i32b p1; have := i32b p2; have := i32b p3; omega) H locs ls u4 x39 rfl lu4 hT hS (lv_sub hl [0, 1, 2, 3, 4] rfl) (by omega)
    exact L11 _ H locs ls G (0 : Int32) rfl (lowG.rf G) hT hS (lv_sub hl [0, 1, 2, 3, 4] rfl) (by omega)
  exact main s.heap [] hT va_S.rf

abbrev rmX8_find : Room := { frames := 6, cells := 0, slots := 0, locals := 155 }
set_option maxHeartbeats 4000000 in
set_option maxRecDepth 100000 in
theorem c_X8_find (l : Launch) (D : va_G) (cy : Nat → ClassId) (κ : Nat → Nat) (G : Gh) (p0 : Nat) (k0 : κ p0 = 9) (p1 : Int32) (q1 : 0 ≤ p1.toInt ∧ p1.toInt ≤ 2) : Met l yX8_find wsX8_find rmX8_find (va_Pc [.ref p0, .int p1] (fun U => WW D cy κ G U)) (va_Qi (fun (r : Int32) (u : Gh) => lowG u G ∧ (0 ≤ r.toInt ∧ r.toInt ≤ 1)) (fun u t => WW D cy κ u t) (AA κ)) 0 0 (AA κ) := by
  refine Met.twz (cc := cX8_find) (maxL := 5) (by decide) rfl (Nat.le_of_ble_eq_true rfl) ?_
  intro p e s m args below meth c Q hx hb hml hown hts hK hT hret ls hl
  have hl : lv_has ls 5 [(0, .ref p0), (1, .int p1)] := hl
  have hc1 : (1 : Int32).toInt = 1 := rfl
  have hc5 : (5 : Int32).toInt = 5 := rfl
  have hc0 : (0 : Int32).toInt = 0 := rfl
  have hfl25 := hts (.fieldLink RX8 25 "PlyPlates$Search" "known" "[I") (by decide +kernel)
  have hin8 : ∀ w ∈ u_ws RX8 TX8 7, w ∈ wsX8_find := by decide +kernel
  have hc2 : (2 : Int32).toInt = 2 := rfl
  have main : ∀ (H : Heap) (locs : List Loc), TW D cy κ G H → va_S (AA κ) s.heap H locs → W p l e rmX8_find s m args below meth c H locs 0 0 Q (F0 m 0 ls []) := by
    intro H locs hT hS
    refine lv_iconst (v := (1 : Int32)) hx hb dX8_find_0 (by decide) ?_
    refine lv_istore_n (lv' := [(2, .int (1 : Int32)), (0, .ref p0), (1, .int p1)]) hx hb dX8_find_1 rfl hl (by decide) rfl (fun ls hl => ?_)
    have L2 : ∀ (nn : Nat) (H : Heap) (locs : List Loc) (ls : Array Slot) (u1 : Gh) (x2 : Int32), (nn = (2147483647 - x2.toInt).toNat) → (lowG u1 G) → (TW D cy κ u1 H) → (va_S (AA κ) s.heap H locs) → (lv_has ls 5 [(2, .int x2), (0, .ref p0), (1, .int p1)]) → (1 ≤ x2.toInt ∧ x2.toInt ≤ 6) → W p l e rmX8_find s m args below meth c H locs 0 0 Q (F0 m 2 ls []) := by
      intro nn
      induction nn using Nat.strongRecOn with
      | _ nn ih2 =>
        intro H locs ls u1 x2 hnn lu1 hT hS hl fL2_0
        refine lv_iload_n hx hb dX8_find_2 rfl (lv_at hl 0 rfl) ?_
        refine lv_iconst (v := (5 : Int32)) hx hb dX8_find_3 (by decide) ?_
        refine tb_icmp_gt (tgt := 66) hx hb dX8_find_4 (by decide) (fun c3 => ?_) (fun c3 => ?_)
        · skip
          refine lv_iconst (v := (0 : Int32)) hx hb dX8_find_66 (by decide) ?_
          exact hret H locs ls 67 (0 : Int32) u1 dX8_find_67 (by omega) ⟨lu1, by omega⟩ hT hS
        · skip
          refine lv_aload_n hx hb dX8_find_7 rfl (lv_at hl 1 rfl) ?_
          refine gf_8_6 hx hb hts hin8 hown hK hT k0 hfl25 dX8_find_8 (fun a4 ka4 fva4 => ?_)
          refine lv_iconst (v := (0 : Int32)) hx hb dX8_find_11 (by decide) ?_
          refine tw_Sv (As := [.ref a4, .int (0 : Int32)]) (rest := []) ⟨hx, hb, hml, hown, hts⟩ (c_J7_fill_53178_1216 l D cy κ u1 a4 ka4 (0 : Int32)) (va_cwS 2 hts gX8_find_J7_fill_53178 rfl rfl rfl (by decide +kernel) ⟨Nat.le_of_ble_eq_true rfl, Nat.le_of_ble_eq_true rfl⟩) hK hT hS rfl hl.1 rfl (Nat.le_of_ble_eq_true rfl) dX8_find_12 ⟨Nat.zero_le _, Nat.zero_le _⟩ (fun u6 H locs hpu6 hT hS => ?_)
          obtain ⟨huu6, qu6⟩ := hpu6
          rw [huu6] at hT
          refine lv_iconst (v := (1 : Int32)) hx hb dX8_find_15 (by decide) ?_
          refine lv_iconst (v := (2 : Int32)) hx hb dX8_find_16 (by decide) ?_
          refine lv_iload_n hx hb dX8_find_17 rfl (lv_at hl 0 rfl) ?_
          refine lv_imul hx hb dX8_find_18 ?_
          refine lv_topi (fun x7 ex7 => ?_)
          have tx7 : x7.toInt = 2 * x2.toInt := by rw [ex7, ti_mul (by rw [hc2]; have := i32b (2 : Int32); have := i32b x2; omega), hc2]
          refine lv_ishl hx hb dX8_find_19 ?_
          refine lv_topi (fun x8 _ => ?_)
          refine lv_istore_n (lv' := [(3, .int x8), (2, .int x2), (0, .ref p0), (1, .int p1)]) hx hb dX8_find_20 rfl hl (by decide) rfl (fun ls hl => ?_)
          refine lv_iconst (v := (0 : Int32)) hx hb dX8_find_21 (by decide) ?_
          refine lv_istore (lv' := [(4, .int (0 : Int32)), (3, .int x8), (2, .int x2), (0, .ref p0), (1, .int p1)]) hx hb dX8_find_22 hl (by decide) rfl (fun ls hl => ?_)
          have L24 : ∀ (nn : Nat) (H : Heap) (locs : List Loc) (ls : Array Slot) (u9 : Gh) (x10 : Int32), (nn = (2147483647 - x10.toInt).toNat) → (lowG u9 G) → (TW D cy κ u9 H) → (va_S (AA κ) s.heap H locs) → (lv_has ls 5 [(4, .int x10), (3, .int x8), (2, .int x2), (0, .ref p0), (1, .int p1)]) → W p l e rmX8_find s m args below meth c H locs 0 0 Q (F0 m 24 ls []) := by
            intro nn
            induction nn using Nat.strongRecOn with
            | _ nn ih24 =>
              intro H locs ls u9 x10 hnn lu9 hT hS hl 
              refine lv_iload hx hb dX8_find_24 (lv_at hl 0 rfl) ?_
              refine lv_iload_n hx hb dX8_find_26 rfl (lv_at hl 1 rfl) ?_
              refine tb_icmp_ge (tgt := 60) hx hb dX8_find_27 (by decide) (fun c11 => ?_) (fun c11 => ?_)
              · skip
                obtain ⟨x12, ex12⟩ : ∃ z : Int32, z = x2 + (1 : Int32) := ⟨_, rfl⟩
                refine lv_iinc (v := x12) (lv' := [(2, .int x12), (4, .int x10), (3, .int x8), (0, .ref p0), (1, .int p1)]) hx hb dX8_find_60 hl (k := 2) rfl (by rw [ex12]; rfl) (by decide) rfl (fun ls hl => ?_)
                have tx12 : x12.toInt = x2.toInt + 1 := by rw [ex12, ti_add (by have := i32b x2; have := i32b x10; have := i32b x8; have := i32b p1; omega), hc1]
                refine lv_goto (tgt := 2) hx hb dX8_find_63 (by decide) ?_
                exact ih2 ((2147483647 - x12.toInt).toNat) (by have := i32b x12; have := i32b x10; have := i32b x8; have := i32b p1; omega) H locs ls u9 x12 rfl lu9 hT hS (lv_sub hl [0, 3, 4] rfl) (by omega)
              · skip
                refine lv_aload_n hx hb dX8_find_30 rfl (lv_at hl 3 rfl) ?_
                refine lv_iload_n hx hb dX8_find_31 rfl (lv_at hl 4 rfl) ?_
                refine lv_iload hx hb dX8_find_32 (lv_at hl 0 rfl) ?_
                refine lv_iload_n hx hb dX8_find_34 rfl (lv_at hl 2 rfl) ?_
                refine tw_Vi (q := (RX8, TX8, 7)) (As := [.int p1, .int x10, .int x2]) (rest := []) ⟨hx, hb, hml, hown, hts⟩ (c_X8_holdsCases l D cy κ u9 p0 k0 p1 (by omega) x10 x2) (cwV 3 hts gX8_find_X8_holdsCases rfl rfl rfl (by decide +kernel) ⟨Nat.le_of_ble_eq_true rfl, Nat.le_of_ble_eq_true rfl⟩) hK hT hS k0 (by decide) rfl rfl hl.1 rfl (Nat.le_of_ble_eq_true rfl) dX8_find_35 ⟨Nat.zero_le _, Nat.zero_le _⟩ (fun x13 u14 H locs hpu14 hT hS => ?_)
                obtain ⟨qu14, ru14⟩ := hpu14
                have J54 : ∀ (H : Heap) (locs : List Loc) (ls : Array Slot) (u15 : Gh) , (lowG u15 G) → (TW D cy κ u15 H) → (va_S (AA κ) s.heap H locs) → (lv_has ls 5 [(4, .int x10), (3, .int x8), (2, .int x2), (0, .ref p0), (1, .int p1)]) → W p l e rmX8_find s m args below meth c H locs 0 0 Q (F0 m 54 ls []) := by
                  intro H locs ls u15 lu15 hT hS hl 
                  obtain ⟨x16, ex16⟩ : ∃ z : Int32, z = x10 + (1 : Int32) := ⟨_, rfl⟩
                  refine lv_iinc (v := x16) (lv' := [(4, .int x16), (3, .int x8), (2, .int x2), (0, .ref p0), (1, .int p1)]) hx hb dX8_find_54 hl (k := 0) rfl (by rw [ex16]; rfl) (by decide) rfl (fun ls hl => ?_)
                  have tx16 : x16.toInt = x10.toInt + 1 := by rw [ex16, ti_add (by have := i32b x10; have := i32b x8; have := i32b x2; have := i32b p1; omega), hc1]
                  refine lv_goto (tgt := 24) hx hb dX8_find_57 (by decide) ?_
                  exact ih24 ((2147483647 - x16.toInt).toNat) (by have := i32b x16; have := i32b x8; have := i32b x2; have := i32b p1; omega) H locs ls u15 x16 rfl lu15 hT hS (lv_sub hl [0, 1, 2, 3, 4] rfl) 
                refine tb_if_eq (tgt := 54) hx hb dX8_find_38 (by decide) (fun c17 => ?_) (fun c17 => ?_)
                · skip
                  exact J54 H locs ls u14 (qu14.tr lu9) hT hS (lv_sub hl [0, 1, 2, 3, 4] rfl) 
                · skip
                  refine lv_aload_n hx hb dX8_find_41 rfl (lv_at hl 3 rfl) ?_
                  refine lv_iload_n hx hb dX8_find_42 rfl (lv_at hl 4 rfl) ?_
                  refine lv_iload hx hb dX8_find_43 (lv_at hl 0 rfl) ?_
                  refine lv_iload_n hx hb dX8_find_45 rfl (lv_at hl 2 rfl) ?_
                  refine tw_Vi (q := (RX8, TX8, 7)) (As := [.int p1, .int x10, .int x2]) (rest := []) ⟨hx, hb, hml, hown, hts⟩ (c_X8_keepsRules l D cy κ u14 p0 k0 p1 (by omega) x10 x2) (cwV 3 hts gX8_find_X8_keepsRules rfl rfl rfl (by decide +kernel) ⟨Nat.le_of_ble_eq_true rfl, Nat.le_of_ble_eq_true rfl⟩) hK hT hS k0 (by decide) rfl rfl hl.1 rfl (Nat.le_of_ble_eq_true rfl) dX8_find_46 ⟨Nat.zero_le _, Nat.zero_le _⟩ (fun x18 u19 H locs hpu19 hT hS => ?_)
                  obtain ⟨qu19, ru19⟩ := hpu19
                  refine tb_if_eq (tgt := 54) hx hb dX8_find_49 (by decide) (fun c20 => ?_) (fun c20 => ?_)
                  · skip
                    exact J54 H locs ls u19 (qu19.tr (qu14.tr lu9)) hT hS (lv_sub hl [0, 1, 2, 3, 4] rfl) 
                  · skip
                    refine lv_iconst (v := (1 : Int32)) hx hb dX8_find_52 (by decide) ?_
                    exact hret H locs ls 53 (1 : Int32) u19 dX8_find_53 (by omega) ⟨(qu19.tr (qu14.tr lu9)), by omega⟩ hT hS
          exact L24 _ H locs ls u1 (0 : Int32) rfl lu1 hT hS (lv_sub hl [0, 1, 2, 3, 4] rfl) 
    exact L2 _ H locs ls G (1 : Int32) rfl (lowG.rf G) hT hS (lv_sub hl [0, 1, 2] rfl) (by omega)
  exact main s.heap [] hT va_S.rf
