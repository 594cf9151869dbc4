abbrev rmX4_keepsRun : Room := { frames := 0, cells := 0, slots := 0, locals := 0 }
set_option maxHeartbeats 4000000 in
set_option maxRecDepth 100000 in
theorem c_X4_keepsRun (l : Launch) (D : va_G) (cy : Nat → ClassId) (κ : Nat → Nat) (G : Gh) (p0 : Nat) (k0 : κ p0 = 5) (p1 : Nat) (k1 : κ p1 = 8) : Met l yX4_keepsRun wsX4_keepsRun rmX4_keepsRun (va_Pc [.ref p0, .ref p1] (fun U => WW D cy κ G U)) (va_Qi (fun (r : Int32) (u : Gh) => u = G ∧ (0 ≤ r.toInt ∧ r.toInt ≤ 1)) (fun u t => WW D cy κ u t) (AA κ)) 0 0 (AA κ) := by
  refine Met.twz (cc := cX4_keepsRun) (maxL := 5) (by decide) rfl (Nat.le_of_ble_eq_true rfl) ?_
  intro p e s m args below meth c Q hx hb hml hown hts hK hT hret ls hl
  have hl : lv_has ls 5 [(0, .ref p0), (1, .ref p1)] := hl
  have hc0 : (0 : Int32).toInt = 0 := rfl
  have hfl32 := hts (.fieldLink RX4 32 "PlyPlates$Plate" "size" "I") (by decide +kernel)
  have hin7 : ∀ w ∈ u_ws RX7 TX7 2, w ∈ wsX4_keepsRun := by decide +kernel
  have hc1 : (1 : Int32).toInt = 1 := rfl
  have hfl9 := hts (.fieldLink RX4 9 "PlyPlates$LayRules" "mostRun" "I") (by decide +kernel)
  have hin4 : ∀ w ∈ u_ws RX4 TX4 3, w ∈ wsX4_keepsRun := by decide +kernel
  have hfl37 := hts (.fieldLink RX4 37 "PlyPlates$Plate" "layers" "[LPlyPlates$Layer;") (by decide +kernel)
  have hfl41 := hts (.fieldLink RX4 41 "PlyPlates$Layer" "way" "I") (by decide +kernel)
  have hin5 : ∀ w ∈ u_ws RX5 TX5 4, w ∈ wsX4_keepsRun := by decide +kernel
  have main : ∀ (H : Heap) (locs : List Loc), TW D cy κ G H → va_S (AA κ) s.heap H locs → W p l e rmX4_keepsRun s m args below meth c H locs 0 0 Q (F0 m 0 ls []) := by
    intro H locs hT hS
    refine lv_iconst (v := (0 : Int32)) hx hb dX4_keepsRun_0 (by decide) ?_
    refine lv_istore_n (lv' := [(2, .int (0 : Int32)), (0, .ref p0), (1, .ref p1)]) hx hb dX4_keepsRun_1 rfl hl (by decide) rfl (fun ls hl => ?_)
    refine lv_iconst (v := (0 : Int32)) hx hb dX4_keepsRun_2 (by decide) ?_
    refine lv_istore_n (lv' := [(3, .int (0 : Int32)), (2, .int (0 : Int32)), (0, .ref p0), (1, .ref p1)]) hx hb dX4_keepsRun_3 rfl hl (by decide) rfl (fun ls hl => ?_)
    have L4 : ∀ (nn : Nat) (H : Heap) (locs : List Loc) (ls : Array Slot) (x1 : Int32) (x2 : Int32), (nn = (2147483647 - x1.toInt).toNat) → (TW D cy κ G H) → (va_S (AA κ) s.heap H locs) → (lv_has ls 5 [(3, .int x1), (2, .int x2), (0, .ref p0), (1, .ref p1)]) → (0 ≤ x1.toInt ∧ x1.toInt ≤ 12) → W p l e rmX4_keepsRun s m args below meth c H locs 0 0 Q (F0 m 4 ls []) := by
      intro nn
      induction nn using Nat.strongRecOn with
      | _ nn ih4 =>
        intro H locs ls x1 x2 hnn hT hS hl fL4_0
        refine lv_iload_n hx hb dX4_keepsRun_4 rfl (lv_at hl 0 rfl) ?_
        refine lv_aload_n hx hb dX4_keepsRun_5 rfl (lv_at hl 3 rfl) ?_
        refine gf_7_1 hx hb hts hin7 hown hK hT k1 hfl32 dX4_keepsRun_6 (fun x3 kx3 fvx3 => ?_)
        have gx3 := congrArg Int32.toInt kx3.1
        refine tb_icmp_ge (tgt := 75) hx hb dX4_keepsRun_9 (by decide) (fun c4 => ?_) (fun c4 => ?_)
        · skip
          refine lv_iconst (v := (1 : Int32)) hx hb dX4_keepsRun_75 (by decide) ?_
          exact hret H locs ls 76 (1 : Int32) G dX4_keepsRun_76 (by omega) ⟨rfl, by omega⟩ hT hS
        · skip
          refine lv_iload_n hx hb dX4_keepsRun_12 rfl (lv_at hl 0 rfl) ?_
          have J44 : ∀ (H : Heap) (locs : List Loc) (ls : Array Slot) (x5 : Int32), (TW D cy κ G H) → (va_S (AA κ) s.heap H locs) → (lv_has ls 5 [(3, .int x1), (2, .int x2), (0, .ref p0), (1, .ref p1)]) → (0 ≤ x5.toInt ∧ x5.toInt ≤ 1) → W p l e rmX4_keepsRun s m args below meth c H locs 0 0 Q (F0 m 44 ls [.int x5]) := by
            intro H locs ls x5 hT hS hl fJ44_0
            refine lv_istore (lv' := [(4, .int x5), (3, .int x1), (2, .int x2), (0, .ref p0), (1, .ref p1)]) hx hb dX4_keepsRun_44 hl (by decide) rfl (fun ls hl => ?_)
            refine lv_iload hx hb dX4_keepsRun_46 (lv_at hl 0 rfl) ?_
            have J58 : ∀ (H : Heap) (locs : List Loc) (ls : Array Slot) (x6 : Int32), (TW D cy κ G H) → (va_S (AA κ) s.heap H locs) → (lv_has ls 5 [(4, .int x5), (3, .int x1), (2, .int x2), (0, .ref p0), (1, .ref p1)]) → W p l e rmX4_keepsRun s m args below meth c H locs 0 0 Q (F0 m 58 ls [.int x6]) := by
              intro H locs ls x6 hT hS hl 
              refine lv_istore_n (lv' := [(2, .int x6), (4, .int x5), (3, .int x1), (0, .ref p0), (1, .ref p1)]) hx hb dX4_keepsRun_58 rfl hl (by decide) rfl (fun ls hl => ?_)
              refine lv_iload_n hx hb dX4_keepsRun_59 rfl (lv_at hl 0 rfl) ?_
              refine lv_aload_n hx hb dX4_keepsRun_60 rfl (lv_at hl 3 rfl) ?_
              refine gf_4_0 hx hb hts hin4 hown hK hT k0 hfl9 dX4_keepsRun_61 (fun x7 kx7 fvx7 => ?_)
              refine tb_icmp_le (tgt := 69) hx hb dX4_keepsRun_64 (by decide) (fun c8 => ?_) (fun c8 => ?_)
              · skip
                obtain ⟨x9, ex9⟩ : ∃ z : Int32, z = x1 + (1 : Int32) := ⟨_, rfl⟩
                refine lv_iinc (v := x9) (lv' := [(3, .int x9), (2, .int x6), (4, .int x5), (0, .ref p0), (1, .ref p1)]) hx hb dX4_keepsRun_69 hl (k := 2) rfl (by rw [ex9]; rfl) (by decide) rfl (fun ls hl => ?_)
                have tx9 : x9.toInt = x1.toInt + 1 := by rw [ex9, ti_add (by have := i32b x1; have := i32b x6; have := i32b x5; omega), hc1]
                refine lv_goto (tgt := 4) hx hb dX4_keepsRun_72 (by decide) ?_
                exact ih4 ((2147483647 - x9.toInt).toNat) (by have := i32b x9; have := i32b x6; have := i32b x5; omega) H locs ls x9 x6 rfl hT hS (lv_sub hl [0, 1, 3, 4] rfl) (by omega)
              · skip
                refine lv_iconst (v := (0 : Int32)) hx hb dX4_keepsRun_67 (by decide) ?_
                exact hret H locs ls 68 (0 : Int32) G dX4_keepsRun_68 (by omega) ⟨rfl, by omega⟩ hT hS
            refine tb_if_eq (tgt := 57) hx hb dX4_keepsRun_48 (by decide) (fun c10 => ?_) (fun c10 => ?_)
            · skip
              refine lv_iconst (v := (1 : Int32)) hx hb dX4_keepsRun_57 (by decide) ?_
              exact J58 H locs ls (1 : Int32) hT hS (lv_sub hl [0, 1, 2, 3, 4] rfl) 
            · skip
              refine lv_iload_n hx hb dX4_keepsRun_51 rfl (lv_at hl 2 rfl) ?_
              refine lv_iconst (v := (1 : Int32)) hx hb dX4_keepsRun_52 (by decide) ?_
              refine lv_iadd hx hb dX4_keepsRun_53 ?_
              refine lv_topi (fun x11 ex11 => ?_)
              have tx11 : x11.toInt = (x2 + (1 : Int32)).toInt := by rw [ex11]
              refine lv_goto (tgt := 58) hx hb dX4_keepsRun_54 (by decide) ?_
              exact J58 H locs ls x11 hT hS (lv_sub hl [0, 1, 2, 3, 4] rfl) 
          have J43 : ∀ (H : Heap) (locs : List Loc) (ls : Array Slot) , (TW D cy κ G H) → (va_S (AA κ) s.heap H locs) → (lv_has ls 5 [(3, .int x1), (2, .int x2), (0, .ref p0), (1, .ref p1)]) → W p l e rmX4_keepsRun s m args below meth c H locs 0 0 Q (F0 m 43 ls []) := by
            intro H locs ls  hT hS hl 
            refine lv_iconst (v := (0 : Int32)) hx hb dX4_keepsRun_43 (by decide) ?_
            exact J44 H locs ls (0 : Int32) hT hS (lv_sub hl [0, 1, 2, 3] rfl) (by omega)
          refine tb_if_le (tgt := 43) hx hb dX4_keepsRun_13 (by decide) (fun c12 => ?_) (fun c12 => ?_)
          · skip
            exact J43 H locs ls  hT hS (lv_sub hl [0, 1, 2, 3] rfl) 
          · skip
            refine lv_aload_n hx hb dX4_keepsRun_16 rfl (lv_at hl 3 rfl) ?_
            refine gf_7_0 hx hb hts hin7 hown hK hT k1 hfl37 dX4_keepsRun_17 (fun a13 ka13 fva13 => ?_)
            refine lv_iload_n hx hb dX4_keepsRun_20 rfl (lv_at hl 0 rfl) ?_
            refine tw_ra (K := 29) (t := 2) (ty := .object RX5) (n := 12) (P := fun b => κ b = 6) hx hb hK hT ka13 (by decide) rfl rfl rfl rfl (by omega) rfl dX4_keepsRun_21 (fun a14 ka14 fva14 => ?_)
            refine gf_5_1 hx hb hts hin5 hown hK hT ka14 hfl41 dX4_keepsRun_22 (fun x15 kx15 fvx15 => ?_)
            refine lv_aload_n hx hb dX4_keepsRun_25 rfl (lv_at hl 3 rfl) ?_
            refine gf_7_0 hx hb hts hin7 hown hK hT k1 hfl37 dX4_keepsRun_26 (fun a16 ka16 fva16 => ?_)
            obtain rfl : a13 = a16 := eRef (FV.eq fva13 fva16)
            refine lv_iload_n hx hb dX4_keepsRun_29 rfl (lv_at hl 0 rfl) ?_
            refine lv_iconst (v := (1 : Int32)) hx hb dX4_keepsRun_30 (by decide) ?_
            refine lv_isub hx hb dX4_keepsRun_31 ?_
            refine lv_topi (fun x17 ex17 => ?_)
            have tx17 : x17.toInt = x1.toInt - (1 : Int32).toInt := by rw [ex17]; exact ti_sub (by have := i32b x1; have := i32b (1 : Int32); omega)
            refine tw_ra (K := 29) (t := 2) (ty := .object RX5) (n := 12) (P := fun b => κ b = 6) hx hb hK hT ka13 (by decide) rfl rfl rfl rfl (by omega) rfl dX4_keepsRun_32 (fun a18 ka18 fva18 => ?_)
            refine gf_5_1 hx hb hts hin5 hown hK hT ka18 hfl41 dX4_keepsRun_33 (fun x19 kx19 fvx19 => ?_)
            refine tb_icmp_ne (tgt := 43) hx hb dX4_keepsRun_36 (by decide) (fun c20 => ?_) (fun c20 => ?_)
            · skip
              exact J43 H locs ls  hT hS (lv_sub hl [0, 1, 2, 3] rfl) 
            · skip
              refine lv_iconst (v := (1 : Int32)) hx hb dX4_keepsRun_39 (by decide) ?_
              refine lv_goto (tgt := 44) hx hb dX4_keepsRun_40 (by decide) ?_
              exact J44 H locs ls (1 : Int32) hT hS (lv_sub hl [0, 1, 2, 3] rfl) (by omega)
    exact L4 _ H locs ls (0 : Int32) (0 : Int32) rfl hT hS (lv_sub hl [0, 1, 2, 3] rfl) (by omega)
  exact main s.heap [] hT va_S.rf

abbrev rmX4_keepsStep : Room := { frames := 0, cells := 0, slots := 0, locals := 0 }
set_option maxHeartbeats 4000000 in
set_option maxRecDepth 100000 in
theorem c_X4_keepsStep (l : Launch) (D : va_G) (cy : Nat → ClassId) (κ : Nat → Nat) (G : Gh) (p0 : Nat) (k0 : κ p0 = 5) (p1 : Nat) (k1 : κ p1 = 8) : Met l yX4_keepsStep wsX4_keepsStep rmX4_keepsStep (va_Pc [.ref p0, .ref p1] (fun U => WW D cy κ G U)) (va_Qi (fun (r : Int32) (u : Gh) => u = G ∧ (0 ≤ r.toInt ∧ r.toInt ≤ 1)) (fun u t => WW D cy κ u t) (AA κ)) 0 0 (AA κ) := by
  refine Met.twz (cc := cX4_keepsStep) (maxL := 5) (by decide) rfl (Nat.le_of_ble_eq_true rfl) ?_
  intro p e s m args below meth c Q hx hb hml hown hts hK hT hret ls hl
  have hl : lv_has ls 5 [(0, .ref p0), (1, .ref p1)] := hl
  have hc1 : (1 : Int32).toInt = 1 := rfl
  have hfl32 := hts (.fieldLink RX4 32 "PlyPlates$Plate" "size" "I") (by decide +kernel)
  have hin7 : ∀ w ∈ u_ws RX7 TX7 2, w ∈ wsX4_keepsStep := by decide +kernel
  have hfl37 := hts (.fieldLink RX4 37 "PlyPlates$Plate" "layers" "[LPlyPlates$Layer;") (by decide +kernel)
  have hfl41 := hts (.fieldLink RX4 41 "PlyPlates$Layer" "way" "I") (by decide +kernel)
  have hin5 : ∀ w ∈ u_ws RX5 TX5 4, w ∈ wsX4_keepsStep := by decide +kernel
  have hc0 : (0 : Int32).toInt = 0 := rfl
  have main : ∀ (H : Heap) (locs : List Loc), TW D cy κ G H → va_S (AA κ) s.heap H locs → W p l e rmX4_keepsStep s m args below meth c H locs 0 0 Q (F0 m 0 ls []) := by
    intro H locs hT hS
    refine lv_iconst (v := (1 : Int32)) hx hb dX4_keepsStep_0 (by decide) ?_
    refine lv_istore_n (lv' := [(2, .int (1 : Int32)), (0, .ref p0), (1, .ref p1)]) hx hb dX4_keepsStep_1 rfl hl (by decide) rfl (fun ls hl => ?_)
    have L2 : ∀ (nn : Nat) (H : Heap) (locs : List Loc) (ls : Array Slot) (x1 : Int32), (nn = (2147483647 - x1.toInt).toNat) → (TW D cy κ G H) → (va_S (AA κ) s.heap H locs) → (lv_has ls 5 [(2, .int x1), (0, .ref p0), (1, .ref p1)]) → (1 ≤ x1.toInt ∧ x1.toInt ≤ 12) → W p l e rmX4_keepsStep s m args below meth c H locs 0 0 Q (F0 m 2 ls []) := by
      intro nn
      induction nn using Nat.strongRecOn with
      | _ nn ih2 =>
        intro H locs ls x1 hnn hT hS hl fL2_0
        refine lv_iload_n hx hb dX4_keepsStep_2 rfl (lv_at hl 0 rfl) ?_
        refine lv_aload_n hx hb dX4_keepsStep_3 rfl (lv_at hl 2 rfl) ?_
        refine gf_7_1 hx hb hts hin7 hown hK hT k1 hfl32 dX4_keepsStep_4 (fun x2 kx2 fvx2 => ?_)
        have gx2 := congrArg Int32.toInt kx2.1
        refine tb_icmp_ge (tgt := 61) hx hb dX4_keepsStep_7 (by decide) (fun c3 => ?_) (fun c3 => ?_)
        · skip
          refine lv_iconst (v := (1 : Int32)) hx hb dX4_keepsStep_61 (by decide) ?_
          exact hret H locs ls 62 (1 : Int32) G dX4_keepsStep_62 (by omega) ⟨rfl, by omega⟩ hT hS
        · skip
          refine lv_aload_n hx hb dX4_keepsStep_10 rfl (lv_at hl 2 rfl) ?_
          refine gf_7_0 hx hb hts hin7 hown hK hT k1 hfl37 dX4_keepsStep_11 (fun a4 ka4 fva4 => ?_)
          refine lv_iload_n hx hb dX4_keepsStep_14 rfl (lv_at hl 0 rfl) ?_
          refine tw_ra (K := 29) (t := 2) (ty := .object RX5) (n := 12) (P := fun b => κ b = 6) hx hb hK hT ka4 (by decide) rfl rfl rfl rfl (by omega) rfl dX4_keepsStep_15 (fun a5 ka5 fva5 => ?_)
          refine gf_5_1 hx hb hts hin5 hown hK hT ka5 hfl41 dX4_keepsStep_16 (fun x6 kx6 fvx6 => ?_)
          refine lv_istore_n (lv' := [(3, .int x6), (2, .int x1), (0, .ref p0), (1, .ref p1)]) hx hb dX4_keepsStep_19 rfl hl (by decide) rfl (fun ls hl => ?_)
          refine lv_aload_n hx hb dX4_keepsStep_20 rfl (lv_at hl 3 rfl) ?_
          refine gf_7_0 hx hb hts hin7 hown hK hT k1 hfl37 dX4_keepsStep_21 (fun a7 ka7 fva7 => ?_)
          obtain rfl : a4 = a7 := eRef (FV.eq fva4 fva7)
          refine lv_iload_n hx hb dX4_keepsStep_24 rfl (lv_at hl 1 rfl) ?_
          refine lv_iconst (v := (1 : Int32)) hx hb dX4_keepsStep_25 (by decide) ?_
          refine lv_isub hx hb dX4_keepsStep_26 ?_
          refine lv_topi (fun x8 ex8 => ?_)
          have tx8 : x8.toInt = x1.toInt - (1 : Int32).toInt := by rw [ex8]; exact ti_sub (by have := i32b x1; have := i32b (1 : Int32); omega)
          refine tw_ra (K := 29) (t := 2) (ty := .object RX5) (n := 12) (P := fun b => κ b = 6) hx hb hK hT ka4 (by decide) rfl rfl rfl rfl (by omega) rfl dX4_keepsStep_27 (fun a9 ka9 fva9 => ?_)
          refine gf_5_1 hx hb hts hin5 hown hK hT ka9 hfl41 dX4_keepsStep_28 (fun x10 kx10 fvx10 => ?_)
          refine lv_istore (lv' := [(4, .int x10), (3, .int x6), (2, .int x1), (0, .ref p0), (1, .ref p1)]) hx hb dX4_keepsStep_31 hl (by decide) rfl (fun ls hl => ?_)
          refine lv_iload_n hx hb dX4_keepsStep_33 rfl (lv_at hl 1 rfl) ?_
          have J43 : ∀ (H : Heap) (locs : List Loc) (ls : Array Slot) , (TW D cy κ G H) → (va_S (AA κ) s.heap H locs) → (lv_has ls 5 [(4, .int x10), (3, .int x6), (2, .int x1), (0, .ref p0), (1, .ref p1)]) → W p l e rmX4_keepsStep s m args below meth c H locs 0 0 Q (F0 m 43 ls []) := by
            intro H locs ls  hT hS hl 
            refine lv_iload_n hx hb dX4_keepsStep_43 rfl (lv_at hl 1 rfl) ?_
            refine lv_iconst (v := (1 : Int32)) hx hb dX4_keepsStep_44 (by decide) ?_
            have J55 : ∀ (H : Heap) (locs : List Loc) (ls : Array Slot) , (TW D cy κ G H) → (va_S (AA κ) s.heap H locs) → (lv_has ls 5 [(4, .int x10), (3, .int x6), (2, .int x1), (0, .ref p0), (1, .ref p1)]) → W p l e rmX4_keepsStep s m args below meth c H locs 0 0 Q (F0 m 55 ls []) := by
              intro H locs ls  hT hS hl 
              obtain ⟨x11, ex11⟩ : ∃ z : Int32, z = x1 + (1 : Int32) := ⟨_, rfl⟩
              refine lv_iinc (v := x11) (lv' := [(2, .int x11), (4, .int x10), (3, .int x6), (0, .ref p0), (1, .ref p1)]) hx hb dX4_keepsStep_55 hl (k := 2) rfl (by rw [ex11]; rfl) (by decide) rfl (fun ls hl => ?_)
              have tx11 : x11.toInt = x1.toInt + 1 := by rw [ex11, ti_add (by have := i32b x1; have := i32b x10; have := i32b x6; omega), hc1]
              refine lv_goto (tgt := 2) hx hb dX4_keepsStep_58 (by decide) ?_
              exact ih2 ((2147483647 - x11.toInt).toNat) (by have := i32b x11; have := i32b x10; have := i32b x6; omega) H locs ls x11 rfl hT hS (lv_sub hl [0, 3, 4] rfl) (by omega)
            refine tb_icmp_ne (tgt := 55) hx hb dX4_keepsStep_45 (by decide) (fun c12 => ?_) (fun c12 => ?_)
            · skip
              exact J55 H locs ls  hT hS (lv_sub hl [0, 1, 2, 3, 4] rfl) 
            · skip
              refine lv_iload hx hb dX4_keepsStep_48 (lv_at hl 0 rfl) ?_
              refine tb_if_ne (tgt := 55) hx hb dX4_keepsStep_50 (by decide) (fun c13 => ?_) (fun c13 => ?_)
              · skip
                exact J55 H locs ls  hT hS (lv_sub hl [0, 1, 2, 3, 4] rfl) 
              · skip
                refine lv_iconst (v := (0 : Int32)) hx hb dX4_keepsStep_53 (by decide) ?_
                exact hret H locs ls 54 (0 : Int32) G dX4_keepsStep_54 (by omega) ⟨rfl, by omega⟩ hT hS
          refine tb_if_ne (tgt := 43) hx hb dX4_keepsStep_34 (by decide) (fun c14 => ?_) (fun c14 => ?_)
          · skip
            exact J43 H locs ls  hT hS (lv_sub hl [0, 1, 2, 3, 4] rfl) 
          · skip
            refine lv_iload hx hb dX4_keepsStep_37 (lv_at hl 0 rfl) ?_
            refine lv_iconst (v := (1 : Int32)) hx hb dX4_keepsStep_39 (by decide) ?_
            refine tb_icmp_eq (tgt := 53) hx hb dX4_keepsStep_40 (by decide) (fun c15 => ?_) (fun c15 => ?_)
            · skip
              refine lv_iconst (v := (0 : Int32)) hx hb dX4_keepsStep_53 (by decide) ?_
              exact hret H locs ls 54 (0 : Int32) G dX4_keepsStep_54 (by omega) ⟨rfl, by omega⟩ hT hS
            · skip
              exact J43 H locs ls  hT hS (lv_sub hl [0, 1, 2, 3, 4] rfl) 
    exact L2 _ H locs ls (1 : Int32) rfl hT hS (lv_sub hl [0, 1, 2] rfl) (by omega)
  exact main s.heap [] hT va_S.rf

abbrev rmX4_keepsEach : Room := { frames := 0, cells := 0, slots := 0, locals := 0 }
set_option maxHeartbeats 4000000 in
set_option maxRecDepth 100000 in
theorem c_X4_keepsEach (l : Launch) (D : va_G) (cy : Nat → ClassId) (κ : Nat → Nat) (G : Gh) (p0 : Nat) (k0 : κ p0 = 5) (p1 : Nat) (k1 : κ p1 = 8) : Met l yX4_keepsEach wsX4_keepsEach rmX4_keepsEach (va_Pc [.ref p0, .ref p1] (fun U => WW D cy κ G U)) (va_Qi (fun (r : Int32) (u : Gh) => u = G ∧ (0 ≤ r.toInt ∧ r.toInt ≤ 1)) (fun u t => WW D cy κ u t) (AA κ)) 0 0 (AA κ) := by
  refine Met.twz (cc := cX4_keepsEach) (maxL := 5) (by decide) rfl (Nat.le_of_ble_eq_true rfl) ?_
  intro p e s m args below meth c Q hx hb hml hown hts hK hT hret ls hl
  have hl : lv_has ls 5 [(0, .ref p0), (1, .ref p1)] := hl
  have hc0 : (0 : Int32).toInt = 0 := rfl
  have hc4 : (4 : Int32).toInt = 4 := rfl
  have hc1 : (1 : Int32).toInt = 1 := rfl
  have hfl32 := hts (.fieldLink RX4 32 "PlyPlates$Plate" "size" "I") (by decide +kernel)
  have hin7 : ∀ w ∈ u_ws RX7 TX7 2, w ∈ wsX4_keepsEach := by decide +kernel
  have hfl19 := hts (.fieldLink RX4 19 "PlyPlates$LayRules" "leastEach" "I") (by decide +kernel)
  have hin4 : ∀ w ∈ u_ws RX4 TX4 3, w ∈ wsX4_keepsEach := by decide +kernel
  have hfl37 := hts (.fieldLink RX4 37 "PlyPlates$Plate" "layers" "[LPlyPlates$Layer;") (by decide +kernel)
  have hfl41 := hts (.fieldLink RX4 41 "PlyPlates$Layer" "way" "I") (by decide +kernel)
  have hin5 : ∀ w ∈ u_ws RX5 TX5 4, w ∈ wsX4_keepsEach := by decide +kernel
  have main : ∀ (H : Heap) (locs : List Loc), TW D cy κ G H → va_S (AA κ) s.heap H locs → W p l e rmX4_keepsEach s m args below meth c H locs 0 0 Q (F0 m 0 ls []) := by
    intro H locs hT hS
    refine lv_iconst (v := (0 : Int32)) hx hb dX4_keepsEach_0 (by decide) ?_
    refine lv_istore_n (lv' := [(2, .int (0 : Int32)), (0, .ref p0), (1, .ref p1)]) hx hb dX4_keepsEach_1 rfl hl (by decide) rfl (fun ls hl => ?_)
    have L2 : ∀ (nn : Nat) (H : Heap) (locs : List Loc) (ls : Array Slot) (x1 : Int32), (nn = (2147483647 - x1.toInt).toNat) → (TW D cy κ G H) → (va_S (AA κ) s.heap H locs) → (lv_has ls 5 [(2, .int x1), (0, .ref p0), (1, .ref p1)]) → (0 ≤ x1.toInt ∧ x1.toInt ≤ 4) → W p l e rmX4_keepsEach s m args below meth c H locs 0 0 Q (F0 m 2 ls []) := by
      intro nn
      induction nn using Nat.strongRecOn with
      | _ nn ih2 =>
        intro H locs ls x1 hnn hT hS hl fL2_0
        refine lv_iload_n hx hb dX4_keepsEach_2 rfl (lv_at hl 0 rfl) ?_
        refine lv_iconst (v := (4 : Int32)) hx hb dX4_keepsEach_3 (by decide) ?_
        refine tb_icmp_ge (tgt := 60) hx hb dX4_keepsEach_4 (by decide) (fun c2 => ?_) (fun c2 => ?_)
        · skip
          refine lv_iconst (v := (1 : Int32)) hx hb dX4_keepsEach_60 (by decide) ?_
          exact hret H locs ls 61 (1 : Int32) G dX4_keepsEach_61 (by omega) ⟨rfl, by omega⟩ hT hS
        · skip
          refine lv_iconst (v := (0 : Int32)) hx hb dX4_keepsEach_7 (by decide) ?_
          refine lv_istore_n (lv' := [(3, .int (0 : Int32)), (2, .int x1), (0, .ref p0), (1, .ref p1)]) hx hb dX4_keepsEach_8 rfl hl (by decide) rfl (fun ls hl => ?_)
          refine lv_iconst (v := (0 : Int32)) hx hb dX4_keepsEach_9 (by decide) ?_
          refine lv_istore (lv' := [(4, .int (0 : Int32)), (3, .int (0 : Int32)), (2, .int x1), (0, .ref p0), (1, .ref p1)]) hx hb dX4_keepsEach_10 hl (by decide) rfl (fun ls hl => ?_)
          have L12 : ∀ (nn : Nat) (H : Heap) (locs : List Loc) (ls : Array Slot) (x3 : Int32) (x4 : Int32), (nn = (2147483647 - x3.toInt).toNat) → (TW D cy κ G H) → (va_S (AA κ) s.heap H locs) → (lv_has ls 5 [(4, .int x3), (3, .int x4), (2, .int x1), (0, .ref p0), (1, .ref p1)]) → (0 ≤ x3.toInt ∧ x3.toInt ≤ 12) → W p l e rmX4_keepsEach s m args below meth c H locs 0 0 Q (F0 m 12 ls []) := by
            intro nn
            induction nn using Nat.strongRecOn with
            | _ nn ih12 =>
              intro H locs ls x3 x4 hnn hT hS hl fL12_0
              refine lv_iload hx hb dX4_keepsEach_12 (lv_at hl 0 rfl) ?_
              refine lv_aload_n hx hb dX4_keepsEach_14 rfl (lv_at hl 4 rfl) ?_
              refine gf_7_1 hx hb hts hin7 hown hK hT k1 hfl32 dX4_keepsEach_15 (fun x5 kx5 fvx5 => ?_)
              have gx5 := congrArg Int32.toInt kx5.1
              refine tb_icmp_ge (tgt := 44) hx hb dX4_keepsEach_18 (by decide) (fun c6 => ?_) (fun c6 => ?_)
              · skip
                refine lv_iload_n hx hb dX4_keepsEach_44 rfl (lv_at hl 1 rfl) ?_
                refine lv_aload_n hx hb dX4_keepsEach_45 rfl (lv_at hl 3 rfl) ?_
                refine gf_4_2 hx hb hts hin4 hown hK hT k0 hfl19 dX4_keepsEach_46 (fun x7 kx7 fvx7 => ?_)
                refine tb_icmp_ge (tgt := 54) hx hb dX4_keepsEach_49 (by decide) (fun c8 => ?_) (fun c8 => ?_)
                · skip
                  obtain ⟨x9, ex9⟩ : ∃ z : Int32, z = x1 + (1 : Int32) := ⟨_, rfl⟩
                  refine lv_iinc (v := x9) (lv' := [(2, .int x9), (4, .int x3), (3, .int x4), (0, .ref p0), (1, .ref p1)]) hx hb dX4_keepsEach_54 hl (k := 2) rfl (by rw [ex9]; rfl) (by decide) rfl (fun ls hl => ?_)
                  have tx9 : x9.toInt = x1.toInt + 1 := by rw [ex9, ti_add (by have := i32b x1; have := i32b x3; have := i32b x4; omega), hc1]
                  refine lv_goto (tgt := 2) hx hb dX4_keepsEach_57 (by decide) ?_
                  exact ih2 ((2147483647 - x9.toInt).toNat) (by have := i32b x9; have := i32b x3; have := i32b x4; omega) H locs ls x9 rfl hT hS (lv_sub hl [0, 3, 4] rfl) (by omega)
                · skip
                  refine lv_iconst (v := (0 : Int32)) hx hb dX4_keepsEach_52 (by decide) ?_
                  exact hret H locs ls 53 (0 : Int32) G dX4_keepsEach_53 (by omega) ⟨rfl, by omega⟩ hT hS
              · skip
                refine lv_aload_n hx hb dX4_keepsEach_21 rfl (lv_at hl 4 rfl) ?_
                refine gf_7_0 hx hb hts hin7 hown hK hT k1 hfl37 dX4_keepsEach_22 (fun a10 ka10 fva10 => ?_)
                refine lv_iload hx hb dX4_keepsEach_25 (lv_at hl 0 rfl) ?_
                refine tw_ra (K := 29) (t := 2) (ty := .object RX5) (n := 12) (P := fun b => κ b = 6) hx hb hK hT ka10 (by decide) rfl rfl rfl rfl (by omega) rfl dX4_keepsEach_27 (fun a11 ka11 fva11 => ?_)
                refine gf_5_1 hx hb hts hin5 hown hK hT ka11 hfl41 dX4_keepsEach_28 (fun x12 kx12 fvx12 => ?_)
                refine lv_iload_n hx hb dX4_keepsEach_31 rfl (lv_at hl 2 rfl) ?_
                have J38 : ∀ (H : Heap) (locs : List Loc) (ls : Array Slot) (x13 : Int32), (TW D cy κ G H) → (va_S (AA κ) s.heap H locs) → (lv_has ls 5 [(4, .int x3), (3, .int x13), (2, .int x1), (0, .ref p0), (1, .ref p1)]) → W p l e rmX4_keepsEach s m args below meth c H locs 0 0 Q (F0 m 38 ls []) := by
                  intro H locs ls x13 hT hS hl 
                  obtain ⟨x14, ex14⟩ : ∃ z : Int32, z = x3 + (1 : Int32) := ⟨_, rfl⟩
                  refine lv_iinc (v := x14) (lv' := [(4, .int x14), (3, .int x13), (2, .int x1), (0, .ref p0), (1, .ref p1)]) hx hb dX4_keepsEach_38 hl (k := 0) rfl (by rw [ex14]; rfl) (by decide) rfl (fun ls hl => ?_)
                  have tx14 : x14.toInt = x3.toInt + 1 := by rw [ex14, ti_add (by have := i32b x3; have := i32b x13; have := i32b x1; omega), hc1]
                  refine lv_goto (tgt := 12) hx hb dX4_keepsEach_41 (by decide) ?_
                  exact ih12 ((2147483647 - x14.toInt).toNat) (by have := i32b x14; have := i32b x13; have := i32b x1; omega) H locs ls x14 x13 rfl hT hS (lv_sub hl [0, 1, 2, 3, 4] rfl) (by omega)
                refine tb_icmp_ne (tgt := 38) hx hb dX4_keepsEach_32 (by decide) (fun c15 => ?_) (fun c15 => ?_)
                · skip
                  exact J38 H locs ls x4 hT hS (lv_sub hl [0, 1, 2, 3, 4] rfl) 
                · skip
                  obtain ⟨x16, ex16⟩ : ∃ z : Int32, z = x4 + (1 : Int32) := ⟨_, rfl⟩
                  refine lv_iinc (v := x16) (lv' := [(3, .int x16), (4, .int x3), (2, .int x1), (0, .ref p0), (1, .ref p1)]) hx hb dX4_keepsEach_35 hl (k := 1) rfl (by rw [ex16]; rfl) (by decide) rfl (fun ls hl => ?_)
                  exact J38 H locs ls x16 hT hS (lv_sub hl [1, 0, 2, 3, 4] rfl) 
          exact L12 _ H locs ls (0 : Int32) (0 : Int32) rfl hT hS (lv_sub hl [0, 1, 2, 3, 4] rfl) (by omega)
    exact L2 _ H locs ls (0 : Int32) rfl hT hS (lv_sub hl [0, 1, 2] rfl) (by omega)
  exact main s.heap [] hT va_S.rf

abbrev rmX4_firstUnkept : Room := { frames := 1, cells := 0, slots := 0, locals := 24 }
set_option maxHeartbeats 4000000 in
set_option maxRecDepth 100000 in
theorem c_X4_firstUnkept (l : Launch) (D : va_G) (cy : Nat → ClassId) (κ : Nat → Nat) (G : Gh) (p0 : Nat) (k0 : κ p0 = 5) (p1 : Nat) (k1 : κ p1 = 8) : Met l yX4_firstUnkept wsX4_firstUnkept rmX4_firstUnkept (va_Pc [.ref p0, .ref p1] (fun U => WW D cy κ G U)) (va_Qi (fun (r : Int32) (u : Gh) => u = G ∧ (True)) (fun u t => WW D cy κ u t) (AA κ)) 0 0 (AA κ) := by
  refine Met.twi (cc := cX4_firstUnkept) (maxL := 2) (by decide) rfl (Nat.le_of_ble_eq_true rfl) ?_
  intro p e s m args below meth c Q hx hb hml hown hts hK hT hret ls hl
  have hl : lv_has ls 2 [(0, .ref p0), (1, .ref p1)] := hl
  have hfl15 := hts (.fieldLink RX4 15 "PlyPlates$LayRules" "isStepRuled" "Z") (by decide +kernel)
  have hin4 : ∀ w ∈ u_ws RX4 TX4 3, w ∈ wsX4_firstUnkept := by decide +kernel
  have hc3 : (3 : Int32).toInt = 3 := rfl
  have hc0 : (0 : Int32).toInt = 0 := rfl
  have hc2 : (2 : Int32).toInt = 2 := rfl
  have hc1 : (1 : Int32).toInt = 1 := rfl
  have main : ∀ (H : Heap) (locs : List Loc), TW D cy κ G H → va_S (AA κ) s.heap H locs → W p l e rmX4_firstUnkept s m args below meth c H locs 0 0 Q (F0 m 0 ls []) := by
    intro H locs hT hS
    refine lv_aload_n hx hb dX4_firstUnkept_0 rfl (lv_at hl 0 rfl) ?_
    refine lv_aload_n hx hb dX4_firstUnkept_1 rfl (lv_at hl 1 rfl) ?_
    refine tw_Vi (q := (RX4, TX4, 3)) (As := [.ref p1]) (rest := []) ⟨hx, hb, hml, hown, hts⟩ (c_X4_keepsRun l D cy κ G p0 k0 p1 k1) (cwV 1 hts gX4_firstUnkept_X4_keepsRun rfl rfl rfl (by decide +kernel) ⟨Nat.le_of_ble_eq_true rfl, Nat.le_of_ble_eq_true rfl⟩) hK hT hS k0 (by decide) rfl rfl hl.1 rfl (Nat.le_of_ble_eq_true rfl) dX4_firstUnkept_2 ⟨Nat.zero_le _, Nat.zero_le _⟩ (fun x1 u2 H locs hpu2 hT hS => ?_)
    obtain ⟨huu2, qu2⟩ := hpu2
    rw [huu2] at hT
    refine tb_if_ne (tgt := 10) hx hb dX4_firstUnkept_5 (by decide) (fun c3 => ?_) (fun c3 => ?_)
    · skip
      refine lv_aload_n hx hb dX4_firstUnkept_10 rfl (lv_at hl 0 rfl) ?_
      refine gf_4_1 hx hb hts hin4 hown hK hT k0 hfl15 dX4_firstUnkept_11 (fun x4 kx4 fvx4 => ?_)
      have kx4 := zor kx4
      have J27 : ∀ (H : Heap) (locs : List Loc) (ls : Array Slot) , (TW D cy κ G H) → (va_S (AA κ) s.heap H locs) → (lv_has ls 2 [(0, .ref p0), (1, .ref p1)]) → W p l e rmX4_firstUnkept s m args below meth c H locs 0 0 Q (F0 m 27 ls []) := by
        intro H locs ls  hT hS hl 
        refine lv_aload_n hx hb dX4_firstUnkept_27 rfl (lv_at hl 0 rfl) ?_
        refine lv_aload_n hx hb dX4_firstUnkept_28 rfl (lv_at hl 1 rfl) ?_
        refine tw_Vi (q := (RX4, TX4, 3)) (As := [.ref p1]) (rest := []) ⟨hx, hb, hml, hown, hts⟩ (c_X4_keepsEach l D cy κ G p0 k0 p1 k1) (cwV 1 hts gX4_firstUnkept_X4_keepsEach rfl rfl rfl (by decide +kernel) ⟨Nat.le_of_ble_eq_true rfl, Nat.le_of_ble_eq_true rfl⟩) hK hT hS k0 (by decide) rfl rfl hl.1 rfl (Nat.le_of_ble_eq_true rfl) dX4_firstUnkept_29 ⟨Nat.zero_le _, Nat.zero_le _⟩ (fun x5 u6 H locs hpu6 hT hS => ?_)
        obtain ⟨huu6, qu6⟩ := hpu6
        rw [huu6] at hT
        refine tb_if_eq (tgt := 39) hx hb dX4_firstUnkept_32 (by decide) (fun c7 => ?_) (fun c7 => ?_)
        · skip
          refine lv_iconst (v := (3 : Int32)) hx hb dX4_firstUnkept_39 (by decide) ?_
          exact hret H locs ls 40 (3 : Int32) G dX4_firstUnkept_40 ⟨rfl, trivial⟩ hT hS
        · skip
          refine lv_iconst (v := (0 : Int32)) hx hb dX4_firstUnkept_35 (by decide) ?_
          refine lv_goto (tgt := 40) hx hb dX4_firstUnkept_36 (by decide) ?_
          exact hret H locs ls 40 (0 : Int32) G dX4_firstUnkept_40 ⟨rfl, trivial⟩ hT hS
      refine tb_if_eq (tgt := 27) hx hb dX4_firstUnkept_14 (by decide) (fun c8 => ?_) (fun c8 => ?_)
      · skip
        exact J27 H locs ls  hT hS (lv_sub hl [0, 1] rfl) 
      · skip
        refine lv_aload_n hx hb dX4_firstUnkept_17 rfl (lv_at hl 0 rfl) ?_
        refine lv_aload_n hx hb dX4_firstUnkept_18 rfl (lv_at hl 1 rfl) ?_
        refine tw_Vi (q := (RX4, TX4, 3)) (As := [.ref p1]) (rest := []) ⟨hx, hb, hml, hown, hts⟩ (c_X4_keepsStep l D cy κ G p0 k0 p1 k1) (cwV 1 hts gX4_firstUnkept_X4_keepsStep rfl rfl rfl (by decide +kernel) ⟨Nat.le_of_ble_eq_true rfl, Nat.le_of_ble_eq_true rfl⟩) hK hT hS k0 (by decide) rfl rfl hl.1 rfl (Nat.le_of_ble_eq_true rfl) dX4_firstUnkept_19 ⟨Nat.zero_le _, Nat.zero_le _⟩ (fun x9 u10 H locs hpu10 hT hS => ?_)
        obtain ⟨huu10, qu10⟩ := hpu10
        rw [huu10] at hT
        refine tb_if_ne (tgt := 27) hx hb dX4_firstUnkept_22 (by decide) (fun c11 => ?_) (fun c11 => ?_)
        · skip
          exact J27 H locs ls  hT hS (lv_sub hl [0, 1] rfl) 
        · skip
          refine lv_iconst (v := (2 : Int32)) hx hb dX4_firstUnkept_25 (by decide) ?_
          exact hret H locs ls 26 (2 : Int32) G dX4_firstUnkept_26 ⟨rfl, trivial⟩ hT hS
    · skip
      refine lv_iconst (v := (1 : Int32)) hx hb dX4_firstUnkept_8 (by decide) ?_
      exact hret H locs ls 9 (1 : Int32) G dX4_firstUnkept_9 ⟨rfl, trivial⟩ hT hS
  exact main s.heap [] hT va_S.rf
