abbrev rmX0_note : Room := { frames := 0, cells := 0, slots := 0, locals := 0 }
set_option maxHeartbeats 4000000 in
set_option maxRecDepth 100000 in
theorem c_X0_note (l : Launch) (D : va_G) (cy : Nat → ClassId) (κ : Nat → Nat) (G : Gh) (p0 : Nat) (k0 : κ p0 = 1) (p1 : Int32) (p2 : Nat) (k2 : κ p2 = 4) : Met l yX0_note wsX0_note rmX0_note (va_Pc [.ref p0, .int p1, .ref p2] (fun U => WW D cy κ G U)) (va_Qv (fun u : Gh => lowG u G ∧ (True)) (fun u t => WW D cy κ u t) (AA κ)) 0 0 (AA κ) := by
  refine Met.twv (cc := cX0_note) (maxL := 3) (by decide) rfl (Nat.le_of_ble_eq_true rfl) ?_
  intro p e s m args below meth c Q hx hb hml hown hts hK hT hret ls hl
  have hl : lv_has ls 3 [(0, .ref p0), (1, .int p1), (2, .ref p2)] := hl
  have hfl22 := hts (.fieldLink RX0 22 "PlyPlates$BreakLog" "steps" "I") (by decide +kernel)
  have hin0 : ∀ w ∈ u_ws RX0 TX0 4, w ∈ wsX0_note := by decide +kernel
  have hc24 : (24 : Int32).toInt = 24 := rfl
  have hfl9 := hts (.fieldLink RX0 9 "PlyPlates$BreakLog" "places" "[I") (by decide +kernel)
  have hfl15 := hts (.fieldLink RX0 15 "PlyPlates$BreakLog" "above" "[J") (by decide +kernel)
  have hfl26 := hts (.fieldLink RX0 26 "PlyPlates$Fraction" "above" "J") (by decide +kernel)
  have hin3 : ∀ w ∈ u_ws RX3 TX3 2, w ∈ wsX0_note := by decide +kernel
  have hfl19 := hts (.fieldLink RX0 19 "PlyPlates$BreakLog" "below" "[J") (by decide +kernel)
  have hfl31 := hts (.fieldLink RX0 31 "PlyPlates$Fraction" "below" "J") (by decide +kernel)
  have hc1 : (1 : Int32).toInt = 1 := rfl
  have main : ∀ (H : Heap) (locs : List Loc), TW D cy κ G H → va_S (AA κ) s.heap H locs → W p l e rmX0_note s m args below meth c H locs 0 0 Q (F0 m 0 ls []) := by
    intro H locs hT hS
    refine lv_aload_n hx hb dX0_note_0 rfl (lv_at hl 0 rfl) ?_
    refine gf_0_3 hx hb hts hin0 hown hK hT k0 hfl22 dX0_note_1 (fun x1 kx1 fvx1 => ?_)
    have gx1 := congrArg Int32.toInt kx1.1
    refine lv_bipush (v := (24 : Int32)) hx hb dX0_note_4 (by decide) ?_
    refine tb_icmp_ge (tgt := 55) hx hb dX0_note_6 (by decide) (fun c2 => ?_) (fun c2 => ?_)
    · skip
      exact hret H locs ls 55 G dX0_note_55 ⟨(lowG.rf G), trivial⟩ hT hS
    · skip
      refine lv_aload_n hx hb dX0_note_9 rfl (lv_at hl 0 rfl) ?_
      refine gf_0_0 hx hb hts hin0 hown hK hT k0 hfl9 dX0_note_10 (fun a3 ka3 fva3 => ?_)
      refine lv_aload_n hx hb dX0_note_13 rfl (lv_at hl 0 rfl) ?_
      refine gf_0_3 hx hb hts hin0 hown hK hT k0 hfl22 dX0_note_14 (fun x4 kx4 fvx4 => ?_)
      have gx4 := congrArg Int32.toInt kx4.1
      obtain rfl : x1 = x4 := eInt (FV.eq fvx1 fvx4)
      refine lv_iload_n hx hb dX0_note_17 rfl (lv_at hl 1 rfl) ?_
      refine tw_ias (K := 1024) (n := 24) (P := fun _ => True) hx hb hK hT hS ka3 (by decide) rfl rfl (by omega) rfl trivial dX0_note_18 (fun H locs hT hS hq => ?_)
      have fvx1 := fvx1.kept (hq p0 (kne k0 ka3 (by decide)))
      have fva3 := fva3.kept (hq p0 (kne k0 ka3 (by decide)))
      refine lv_aload_n hx hb dX0_note_19 rfl (lv_at hl 0 rfl) ?_
      refine gf_0_1 hx hb hts hin0 hown hK hT k0 hfl15 dX0_note_20 (fun a5 ka5 fva5 => ?_)
      refine lv_aload_n hx hb dX0_note_23 rfl (lv_at hl 0 rfl) ?_
      refine gf_0_3 hx hb hts hin0 hown hK hT k0 hfl22 dX0_note_24 (fun x6 kx6 fvx6 => ?_)
      have gx6 := congrArg Int32.toInt kx6.1
      obtain rfl : x1 = x6 := eInt (FV.eq fvx1 fvx6)
      refine lv_aload_n hx hb dX0_note_27 rfl (lv_at hl 2 rfl) ?_
      refine gf_3_0 hx hb hts hin3 hown hK hT k2 hfl26 dX0_note_28 (fun y7 ky7 fvy7 => ?_)
      refine tw_las (K := 2024) (n := 24) (P := fun _ => True) hx hb hK hT hS ka5 (by decide) rfl rfl (by omega) rfl trivial dX0_note_31 (fun H locs hT hS hq => ?_)
      have fvx1 := fvx1.kept (hq p0 (kne k0 ka5 (by decide)))
      have fva3 := fva3.kept (hq p0 (kne k0 ka5 (by decide)))
      have fva5 := fva5.kept (hq p0 (kne k0 ka5 (by decide)))
      have fvy7 := fvy7.kept (hq p2 (kne k2 ka5 (by decide)))
      refine lv_aload_n hx hb dX0_note_32 rfl (lv_at hl 0 rfl) ?_
      refine gf_0_2 hx hb hts hin0 hown hK hT k0 hfl19 dX0_note_33 (fun a8 ka8 fva8 => ?_)
      refine lv_aload_n hx hb dX0_note_36 rfl (lv_at hl 0 rfl) ?_
      refine gf_0_3 hx hb hts hin0 hown hK hT k0 hfl22 dX0_note_37 (fun x9 kx9 fvx9 => ?_)
      have gx9 := congrArg Int32.toInt kx9.1
      obtain rfl : x1 = x9 := eInt (FV.eq fvx1 fvx9)
      refine lv_aload_n hx hb dX0_note_40 rfl (lv_at hl 2 rfl) ?_
      refine gf_3_1 hx hb hts hin3 hown hK hT k2 hfl31 dX0_note_41 (fun y10 ky10 fvy10 => ?_)
      refine tw_las (K := 2024) (n := 24) (P := fun _ => True) hx hb hK hT hS ka8 (by decide) rfl rfl (by omega) rfl trivial dX0_note_44 (fun H locs hT hS hq => ?_)
      have fvx1 := fvx1.kept (hq p0 (kne k0 ka8 (by decide)))
      have fva3 := fva3.kept (hq p0 (kne k0 ka8 (by decide)))
      have fva5 := fva5.kept (hq p0 (kne k0 ka8 (by decide)))
      have fvy7 := fvy7.kept (hq p2 (kne k2 ka8 (by decide)))
      have fva8 := fva8.kept (hq p0 (kne k0 ka8 (by decide)))
      have fvy10 := fvy10.kept (hq p2 (kne k2 ka8 (by decide)))
      refine lv_aload_n hx hb dX0_note_45 rfl (lv_at hl 0 rfl) ?_
      refine lv_dup hx hb dX0_note_46 rfl ?_
      refine gf_0_3 hx hb hts hin0 hown hK hT k0 hfl22 dX0_note_47 (fun x11 kx11 fvx11 => ?_)
      have gx11 := congrArg Int32.toInt kx11.1
      obtain rfl : x1 = x11 := eInt (FV.eq fvx1 fvx11)
      refine lv_iconst (v := (1 : Int32)) hx hb dX0_note_50 (by decide) ?_
      refine lv_iadd hx hb dX0_note_51 ?_
      refine lv_topi (fun x12 ex12 => ?_)
      have tx12 : x12.toInt = x1.toInt + (1 : Int32).toInt := by rw [ex12]; exact ti_add (by have := i32b x1; have := i32b (1 : Int32); omega)
      refine pg_0_3 hx hb hts hin0 hown hK hT hS k0 hfl22 dX0_note_52 (by omega) (fun H locs hT hS => ?_)
      exact hret H locs ls 55 (szG G p0 x12) dX0_note_55 ⟨((lowG.sz G p0 x12).tr (lowG.rf G)), trivial⟩ hT hS
  exact main s.heap [] hT va_S.rf

abbrev rmX0_greatest : Room := { frames := 1, cells := 0, slots := 0, locals := 36 }
set_option maxHeartbeats 4000000 in
set_option maxRecDepth 100000 in
theorem c_X0_greatest (l : Launch) (D : va_G) (cy : Nat → ClassId) (κ : Nat → Nat) (G : Gh) (p0 : Nat) (k0 : κ p0 = 1) : Met l yX0_greatest wsX0_greatest rmX0_greatest (va_Pc [.ref p0] (fun U => WW D cy κ G U)) (va_Qi (fun (r : Int32) (u : Gh) => u = G ∧ (True)) (fun u t => WW D cy κ u t) (AA κ)) 0 0 (AA κ) := by
  refine Met.twi (cc := cX0_greatest) (maxL := 3) (by decide) rfl (Nat.le_of_ble_eq_true rfl) ?_
  intro p e s m args below meth c Q hx hb hml hown hts hK hT hret ls hl
  have hl : lv_has ls 3 [(0, .ref p0)] := hl
  have hfl22 := hts (.fieldLink RX0 22 "PlyPlates$BreakLog" "steps" "I") (by decide +kernel)
  have hin0 : ∀ w ∈ u_ws RX0 TX0 4, w ∈ wsX0_greatest := by decide +kernel
  have hc1 : (1 : Int32).toInt = 1 := rfl
  have hfl15 := hts (.fieldLink RX0 15 "PlyPlates$BreakLog" "above" "[J") (by decide +kernel)
  have hfl19 := hts (.fieldLink RX0 19 "PlyPlates$BreakLog" "below" "[J") (by decide +kernel)
  have hc0 : (0 : Int32).toInt = 0 := rfl
  have hcm1 : (-1 : Int32).toInt = -1 := rfl
  have main : ∀ (H : Heap) (locs : List Loc), TW D cy κ G H → va_S (AA κ) s.heap H locs → W p l e rmX0_greatest s m args below meth c H locs 0 0 Q (F0 m 0 ls []) := by
    intro H locs hT hS
    refine lv_aload_n hx hb dX0_greatest_0 rfl (lv_at hl 0 rfl) ?_
    refine gf_0_3 hx hb hts hin0 hown hK hT k0 hfl22 dX0_greatest_1 (fun x1 kx1 fvx1 => ?_)
    have gx1 := congrArg Int32.toInt kx1.1
    have J12 : ∀ (H : Heap) (locs : List Loc) (ls : Array Slot) (x2 : Int32), (TW D cy κ G H) → (va_S (AA κ) s.heap H locs) → (lv_has ls 3 [(0, .ref p0)]) → (-1 ≤ x2.toInt ∧ x2.toInt ≤ 0) → (0 ≤ x2.toInt ∨ (G.1 (1000 + p0)).toInt = 0) → W p l e rmX0_greatest s m args below meth c H locs 0 0 Q (F0 m 12 ls [.int x2]) := by
      intro H locs ls x2 hT hS hl fJ12_0 fJ12_1
      refine lv_istore_n (lv' := [(1, .int x2), (0, .ref p0)]) hx hb dX0_greatest_12 rfl hl (by decide) rfl (fun ls hl => ?_)
      refine lv_iconst (v := (1 : Int32)) hx hb dX0_greatest_13 (by decide) ?_
      refine lv_istore_n (lv' := [(2, .int (1 : Int32)), (1, .int x2), (0, .ref p0)]) hx hb dX0_greatest_14 rfl hl (by decide) rfl (fun ls hl => ?_)
      have L15 : ∀ (nn : Nat) (H : Heap) (locs : List Loc) (ls : Array Slot) (x3 : Int32) (x4 : Int32), (nn = (2147483647 - x3.toInt).toNat) → (TW D cy κ G H) → (va_S (AA κ) s.heap H locs) → (lv_has ls 3 [(2, .int x3), (1, .int x4), (0, .ref p0)]) → (1 ≤ x3.toInt ∧ x3.toInt ≤ 24) → (-1 ≤ x4.toInt ∧ x4.toInt ≤ 23) → (0 ≤ x4.toInt ∨ (G.1 (1000 + p0)).toInt = 0) → W p l e rmX0_greatest s m args below meth c H locs 0 0 Q (F0 m 15 ls []) := by
        intro nn
        induction nn using Nat.strongRecOn with
        | _ nn ih15 =>
          intro H locs ls x3 x4 hnn hT hS hl fL15_0 fL15_1 fL15_2
          refine lv_iload_n hx hb dX0_greatest_15 rfl (lv_at hl 0 rfl) ?_
          refine lv_aload_n hx hb dX0_greatest_16 rfl (lv_at hl 2 rfl) ?_
          refine gf_0_3 hx hb hts hin0 hown hK hT k0 hfl22 dX0_greatest_17 (fun x5 kx5 fvx5 => ?_)
          have gx5 := congrArg Int32.toInt kx5.1
          refine tb_icmp_ge (tgt := 61) hx hb dX0_greatest_20 (by decide) (fun c6 => ?_) (fun c6 => ?_)
          · skip
            refine lv_iload_n hx hb dX0_greatest_61 rfl (lv_at hl 1 rfl) ?_
            exact hret H locs ls 62 x4 G dX0_greatest_62 ⟨rfl, trivial⟩ hT hS
          · skip
            refine lv_aload_n hx hb dX0_greatest_23 rfl (lv_at hl 2 rfl) ?_
            refine gf_0_1 hx hb hts hin0 hown hK hT k0 hfl15 dX0_greatest_24 (fun a7 ka7 fva7 => ?_)
            refine lv_iload_n hx hb dX0_greatest_27 rfl (lv_at hl 0 rfl) ?_
            refine tw_la (K := 2024) (n := 24) (P := fun _ => True) hx hb hK hT ka7 (by decide) rfl rfl (by omega) rfl dX0_greatest_28 (fun y8 _ fvy8 => ?_)
            refine lv_aload_n hx hb dX0_greatest_29 rfl (lv_at hl 2 rfl) ?_
            refine gf_0_2 hx hb hts hin0 hown hK hT k0 hfl19 dX0_greatest_30 (fun a9 ka9 fva9 => ?_)
            refine lv_iload_n hx hb dX0_greatest_33 rfl (lv_at hl 0 rfl) ?_
            refine tw_la (K := 2024) (n := 24) (P := fun _ => True) hx hb hK hT ka9 (by decide) rfl rfl (by omega) rfl dX0_greatest_34 (fun y10 _ fvy10 => ?_)
            refine lv_aload_n hx hb dX0_greatest_35 rfl (lv_at hl 2 rfl) ?_
            refine gf_0_1 hx hb hts hin0 hown hK hT k0 hfl15 dX0_greatest_36 (fun a11 ka11 fva11 => ?_)
            obtain rfl : a7 = a11 := eRef (FV.eq fva7 fva11)
            refine lv_iload_n hx hb dX0_greatest_39 rfl (lv_at hl 1 rfl) ?_
            refine tw_la (K := 2024) (n := 24) (P := fun _ => True) hx hb hK hT ka7 (by decide) rfl rfl (by omega) rfl dX0_greatest_40 (fun y12 _ fvy12 => ?_)
            refine lv_aload_n hx hb dX0_greatest_41 rfl (lv_at hl 2 rfl) ?_
            refine gf_0_2 hx hb hts hin0 hown hK hT k0 hfl19 dX0_greatest_42 (fun a13 ka13 fva13 => ?_)
            obtain rfl : a9 = a13 := eRef (FV.eq fva9 fva13)
            refine lv_iload_n hx hb dX0_greatest_45 rfl (lv_at hl 1 rfl) ?_
            refine tw_la (K := 2024) (n := 24) (P := fun _ => True) hx hb hK hT ka9 (by decide) rfl rfl (by omega) rfl dX0_greatest_46 (fun y14 _ fvy14 => ?_)
            refine tw_Si (As := [.long y8, .long y10, .long y12, .long y14]) (rest := []) ⟨hx, hb, hml, hown, hts⟩ (c_X3_isGreater l D cy κ G y8 y10 y12 y14) (va_cwS 4 hts gX0_greatest_X3_isGreater rfl rfl rfl (by decide +kernel) ⟨Nat.le_of_ble_eq_true rfl, Nat.le_of_ble_eq_true rfl⟩) hK hT hS rfl hl.1 rfl (Nat.le_of_ble_eq_true rfl) dX0_greatest_47 ⟨Nat.zero_le _, Nat.zero_le _⟩ (fun x15 u16 H locs hpu16 hT hS => ?_)
            obtain ⟨huu16, qu16⟩ := hpu16
            rw [huu16] at hT
            have J55 : ∀ (H : Heap) (locs : List Loc) (ls : Array Slot) (x17 : Int32), (TW D cy κ G H) → (va_S (AA κ) s.heap H locs) → (lv_has ls 3 [(2, .int x3), (1, .int x17), (0, .ref p0)]) → (-1 ≤ x17.toInt ∧ x17.toInt ≤ 23) → (0 ≤ x17.toInt ∨ (G.1 (1000 + p0)).toInt = 0) → W p l e rmX0_greatest s m args below meth c H locs 0 0 Q (F0 m 55 ls []) := by
              intro H locs ls x17 hT hS hl fJ55_0 fJ55_1
              obtain ⟨x18, ex18⟩ : ∃ z : Int32, z = x3 + (1 : Int32) := ⟨_, rfl⟩
              refine lv_iinc (v := x18) (lv' := [(2, .int x18), (1, .int x17), (0, .ref p0)]) hx hb dX0_greatest_55 hl (k := 0) rfl (by rw [ex18]; rfl) (by decide) rfl (fun ls hl => ?_)
              have tx18 : x18.toInt = x3.toInt + 1 := by rw [ex18, ti_add (by have := i32b x3; have := i32b x17; omega), hc1]
              refine lv_goto (tgt := 15) hx hb dX0_greatest_58 (by decide) ?_
              exact ih15 ((2147483647 - x18.toInt).toNat) (by have := i32b x18; have := i32b x17; omega) H locs ls x18 x17 rfl hT hS (lv_sub hl [0, 1, 2] rfl) (by omega) (by omega) (by omega)
            refine tb_if_eq (tgt := 55) hx hb dX0_greatest_50 (by decide) (fun c19 => ?_) (fun c19 => ?_)
            · skip
              exact J55 H locs ls x4 hT hS (lv_sub hl [0, 1, 2] rfl) (by omega) (by omega)
            · skip
              refine lv_iload_n hx hb dX0_greatest_53 rfl (lv_at hl 0 rfl) ?_
              refine lv_istore_n (lv' := [(1, .int x3), (2, .int x3), (0, .ref p0)]) hx hb dX0_greatest_54 rfl hl (by decide) rfl (fun ls hl => ?_)
              exact J55 H locs ls x3 hT hS (lv_sub hl [1, 0, 2] rfl) (by omega) (by omega)
      exact L15 _ H locs ls (1 : Int32) x2 rfl hT hS (lv_sub hl [0, 1, 2] rfl) (by omega) (by omega) (by omega)
    refine tb_if_ne (tgt := 11) hx hb dX0_greatest_4 (by decide) (fun c20 => ?_) (fun c20 => ?_)
    · skip
      refine lv_iconst (v := (0 : Int32)) hx hb dX0_greatest_11 (by decide) ?_
      exact J12 H locs ls (0 : Int32) hT hS (lv_sub hl [0] rfl) (by omega) (by omega)
    · skip
      refine lv_iconst (v := (-1 : Int32)) hx hb dX0_greatest_7 (by decide) ?_
      refine lv_goto (tgt := 12) hx hb dX0_greatest_8 (by decide) ?_
      exact J12 H locs ls (-1 : Int32) hT hS (lv_sub hl [0] rfl) (by omega) (by omega)
  exact main s.heap [] hT va_S.rf
