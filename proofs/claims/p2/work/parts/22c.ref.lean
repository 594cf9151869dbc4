abbrev rmX11_isHeld : Room := { frames := 4, cells := 0, slots := 0, locals := 131 }
set_option maxHeartbeats 4000000 in
set_option maxRecDepth 100000 in
theorem c_X11_isHeld (l : Launch) (D : va_G) (cy : Nat → ClassId) (κ : Nat → Nat) (G : Gh) (p0 : Nat) (k0 : κ p0 = 12) (p1 : Int32) (q1 : 0 ≤ p1.toInt ∧ p1.toInt ≤ 4) (p2 : Int32) (p3 : Int32) (p4 : Int32) : Met l yX11_isHeld wsX11_isHeld rmX11_isHeld (va_Pc [.ref p0, .int p1, .int p2, .int p3, .int p4] (fun U => WW D cy κ G U)) (va_Qi (fun (r : Int32) (u : Gh) => fG u G ∧ (0 ≤ r.toInt ∧ r.toInt ≤ 1)) (fun u t => WW D cy κ u t) (AA κ)) 0 0 (AA κ) := by
  refine Met.twz (cc := cX11_isHeld) (maxL := 5) (by decide) rfl (Nat.le_of_ble_eq_true rfl) ?_
  intro p e s m args below meth c Q hx hb hml hown hts hK hT hret ls hl
  have hl : lv_has ls 5 [(0, .ref p0), (1, .int p1), (2, .int p2), (3, .int p3), (4, .int p4)] := hl
  have hkl150 := hts (.constantLong RX11 150 (4)) (by decide +kernel)
  have hlk150 : (4 : Int64).toInt = 4 := rfl
  have hfl120 := hts (.fieldLink RX11 120 "PlyPlatesModel" "below" "J") (by decide +kernel)
  have hin11 : ∀ w ∈ u_ws RX11 TX11 31, w ∈ wsX11_isHeld := by decide +kernel
  have hlc0 : (0 : Int64).toInt = 0 := rfl
  have hcm1 : (-1 : Int32).toInt = -1 := rfl
  have hc1 : (1 : Int32).toInt = 1 := rfl
  have hfl169 := hts (.fieldLink RX11 169 "PlyPlatesModel" "firstShare" "J") (by decide +kernel)
  have hfl172 := hts (.fieldLink RX11 172 "PlyPlatesModel" "firstStrength" "I") (by decide +kernel)
  have hkl156 := hts (.constantLong RX11 156 (2)) (by decide +kernel)
  have hlk156 : (2 : Int64).toInt = 2 := rfl
  have hlc1 : (1 : Int64).toInt = 1 := rfl
  have hc0 : (0 : Int32).toInt = 0 := rfl
  have main : ∀ (H : Heap) (locs : List Loc), TW D cy κ G H → va_S (AA κ) s.heap H locs → W p l e rmX11_isHeld s m args below meth c H locs 0 0 Q (F0 m 0 ls []) := by
    intro H locs hT hS
    refine lv_aload_n hx hb dX11_isHeld_0 rfl (lv_at hl 0 rfl) ?_
    refine lv_iload_n hx hb dX11_isHeld_1 rfl (lv_at hl 1 rfl) ?_
    refine lv_ldc2 hx hb hown hkl150 dX11_isHeld_2 ?_
    refine lv_iload_n hx hb dX11_isHeld_5 rfl (lv_at hl 2 rfl) ?_
    refine lv_i2l hx hb dX11_isHeld_6 rfl ?_
    refine lv_topl (fun y1 ey1 => ?_)
    have ty1 : y1.toInt = p2.toInt := by rw [ey1]; exact Int32.toInt_toInt64 p2
    refine lv_lmul hx hb dX11_isHeld_7 ?_
    refine lv_topl (fun y2 ey2 => ?_)
    refine lv_ldc2 hx hb hown hkl150 dX11_isHeld_8 ?_
    refine lv_iload_n hx hb dX11_isHeld_11 rfl (lv_at hl 3 rfl) ?_
    refine lv_i2l hx hb dX11_isHeld_12 rfl ?_
    refine lv_topl (fun y3 ey3 => ?_)
    have ty3 : y3.toInt = p3.toInt := by rw [ey3]; exact Int32.toInt_toInt64 p3
    refine lv_lmul hx hb dX11_isHeld_13 ?_
    refine lv_topl (fun y4 ey4 => ?_)
    refine lv_ldc2 hx hb hown hkl150 dX11_isHeld_14 ?_
    refine lv_iload hx hb dX11_isHeld_17 (lv_at hl 4 rfl) ?_
    refine lv_i2l hx hb dX11_isHeld_19 rfl ?_
    refine lv_topl (fun y5 ey5 => ?_)
    have ty5 : y5.toInt = p4.toInt := by rw [ey5]; exact Int32.toInt_toInt64 p4
    refine lv_lmul hx hb dX11_isHeld_20 ?_
    refine lv_topl (fun y6 ey6 => ?_)
    refine tw_Vv (q := (RX11, TX11, 31)) (As := [.int p1, .long y2, .long y4, .long y6]) (rest := []) ⟨hx, hb, hml, hown, hts⟩ (c_X11_solve l D cy κ G p0 k0 p1 (by omega) y2 y4 y6) (cwV 4 hts gX11_isHeld_X11_solve rfl rfl rfl (by decide +kernel) ⟨Nat.le_of_ble_eq_true rfl, Nat.le_of_ble_eq_true rfl⟩) hK hT hS k0 (by decide) rfl rfl hl.1 rfl (Nat.le_of_ble_eq_true rfl) dX11_isHeld_21 ⟨Nat.zero_le _, Nat.zero_le _⟩ (fun u8 H locs hpu8 hT hS => ?_)
    obtain ⟨huu8, qu8⟩ := hpu8
    rw [huu8] at hT
    refine lv_aload_n hx hb dX11_isHeld_24 rfl (lv_at hl 0 rfl) ?_
    refine gf_11_24 hx hb hts hin11 hown hK hT k0 hfl120 dX11_isHeld_25 (fun y9 ky9 fvy9 => ?_)
    refine lv_lconst (v := 0) hx hb dX11_isHeld_28 (by decide) ?_
    refine tb_lcmp2 hx hb dX11_isHeld_29 (fun x10 tx10 ux10 => ?_)
    refine tb_if_ne (tgt := 35) hx hb dX11_isHeld_30 (by decide) (fun c11 => ?_) (fun c11 => ?_)
    · skip
      refine lv_aload_n hx hb dX11_isHeld_35 rfl (lv_at hl 0 rfl) ?_
      refine lv_iload_n hx hb dX11_isHeld_36 rfl (lv_at hl 1 rfl) ?_
      refine tw_Vi (q := (RX11, TX11, 31)) (As := [.int p1]) (rest := []) ⟨hx, hb, hml, hown, hts⟩ (c_X11_firstOf l D cy κ G p0 k0 p1 (by omega)) (cwV 1 hts gX11_isHeld_X11_firstOf rfl rfl rfl (by decide +kernel) ⟨Nat.le_of_ble_eq_true rfl, Nat.le_of_ble_eq_true rfl⟩) hK hT hS k0 (by decide) rfl rfl hl.1 rfl (Nat.le_of_ble_eq_true rfl) dX11_isHeld_37 ⟨Nat.zero_le _, Nat.zero_le _⟩ (fun x12 u13 H locs hpu13 hT hS => ?_)
      obtain ⟨qu13, ru13⟩ := hpu13
      refine lv_iconst (v := (-1 : Int32)) hx hb dX11_isHeld_40 (by decide) ?_
      refine tb_icmp_eq (tgt := 68) hx hb dX11_isHeld_41 (by decide) (fun c14 => ?_) (fun c14 => ?_)
      · skip
        refine lv_iconst (v := (1 : Int32)) hx hb dX11_isHeld_68 (by decide) ?_
        refine lv_goto (tgt := 73) hx hb dX11_isHeld_69 (by decide) ?_
        exact hret H locs ls 73 (1 : Int32) u13 dX11_isHeld_73 (by omega) ⟨(fG.tr_fG qu13 (fG.rf G)), by omega⟩ hT hS
      · skip
        refine lv_aload_n hx hb dX11_isHeld_44 rfl (lv_at hl 0 rfl) ?_
        refine gf_11_25 hx hb hts hin11 hown hK hT k0 hfl169 dX11_isHeld_45 (fun y15 ky15 fvy15 => ?_)
        have gy15 := congrArg Int64.toInt ky15
        refine lv_aload_n hx hb dX11_isHeld_48 rfl (lv_at hl 0 rfl) ?_
        refine gf_11_26 hx hb hts hin11 hown hK hT k0 hfl172 dX11_isHeld_49 (fun x16 kx16 fvx16 => ?_)
        have gx16 := congrArg Int32.toInt kx16
        refine lv_i2l hx hb dX11_isHeld_52 rfl ?_
        refine lv_topl (fun y17 ey17 => ?_)
        have ty17 : y17.toInt = x16.toInt := by rw [ey17]; exact Int32.toInt_toInt64 x16
        refine lv_ldc2 hx hb hown hkl156 dX11_isHeld_53 ?_
        refine lv_aload_n hx hb dX11_isHeld_56 rfl (lv_at hl 0 rfl) ?_
        refine gf_11_24 hx hb hts hin11 hown hK hT k0 hfl120 dX11_isHeld_57 (fun y18 ky18 fvy18 => ?_)
        refine lv_lmul hx hb dX11_isHeld_60 ?_
        refine lv_topl (fun y19 ey19 => ?_)
        refine lv_lconst (v := 1) hx hb dX11_isHeld_61 (by decide) ?_
        refine tw_Si (As := [.long y15, .long y17, .long y19, .long (1 : Int64)]) (rest := []) ⟨hx, hb, hml, hown, hts⟩ (c_X11_isAbove l D cy κ u13 y15 y17 y19 (1 : Int64) (by omega) (by omega)) (va_cwS 4 hts gX11_isHeld_X11_isAbove rfl rfl rfl (by decide +kernel) ⟨Nat.le_of_ble_eq_true rfl, Nat.le_of_ble_eq_true rfl⟩) hK hT hS rfl hl.1 rfl (Nat.le_of_ble_eq_true rfl) dX11_isHeld_62 ⟨Nat.zero_le _, Nat.zero_le _⟩ (fun x20 u21 H locs hpu21 hT hS => ?_)
        obtain ⟨huu21, qu21⟩ := hpu21
        rw [huu21] at hT
        refine tb_if_ne (tgt := 72) hx hb dX11_isHeld_65 (by decide) (fun c22 => ?_) (fun c22 => ?_)
        · skip
          refine lv_iconst (v := (0 : Int32)) hx hb dX11_isHeld_72 (by decide) ?_
          exact hret H locs ls 73 (0 : Int32) u13 dX11_isHeld_73 (by omega) ⟨(fG.tr_fG qu13 (fG.rf G)), by omega⟩ hT hS
        · skip
          refine lv_iconst (v := (1 : Int32)) hx hb dX11_isHeld_68 (by decide) ?_
          refine lv_goto (tgt := 73) hx hb dX11_isHeld_69 (by decide) ?_
          exact hret H locs ls 73 (1 : Int32) u13 dX11_isHeld_73 (by omega) ⟨(fG.tr_fG qu13 (fG.rf G)), by omega⟩ hT hS
    · skip
      refine lv_iconst (v := (0 : Int32)) hx hb dX11_isHeld_33 (by decide) ?_
      exact hret H locs ls 34 (0 : Int32) G dX11_isHeld_34 (by omega) ⟨(fG.rf G), by omega⟩ hT hS
  exact main s.heap [] hT va_S.rf

abbrev rmX11_holdsAll : Room := { frames := 5, cells := 0, slots := 0, locals := 155 }
set_option maxHeartbeats 4000000 in
set_option maxRecDepth 100000 in
theorem c_X11_holdsAll (l : Launch) (D : va_G) (cy : Nat → ClassId) (κ : Nat → Nat) (G : Gh) (p0 : Nat) (k0 : κ p0 = 12) (p1 : Int32) (q1 : 0 ≤ p1.toInt ∧ p1.toInt ≤ 4) : Met l yX11_holdsAll wsX11_holdsAll rmX11_holdsAll (va_Pc [.ref p0, .int p1] (fun U => WW D cy κ G U)) (va_Qi (fun (r : Int32) (u : Gh) => fG u G ∧ (0 ≤ r.toInt ∧ r.toInt ≤ 1)) (fun u t => WW D cy κ u t) (AA κ)) 0 0 (AA κ) := by
  refine Met.twz (cc := cX11_holdsAll) (maxL := 3) (by decide) rfl (Nat.le_of_ble_eq_true rfl) ?_
  intro p e s m args below meth c Q hx hb hml hown hts hK hT hret ls hl
  have hl : lv_has ls 3 [(0, .ref p0), (1, .int p1)] := hl
  have hc0 : (0 : Int32).toInt = 0 := rfl
  have hfl206 := hts (.fieldLink RX11 206 "PlyPlatesModel" "cases" "I") (by decide +kernel)
  have hin11 : ∀ w ∈ u_ws RX11 TX11 31, w ∈ wsX11_holdsAll := by decide +kernel
  have hc1 : (1 : Int32).toInt = 1 := rfl
  have hfl50 := hts (.fieldLink RX11 50 "PlyPlatesModel" "caseX" "[I") (by decide +kernel)
  have hfl53 := hts (.fieldLink RX11 53 "PlyPlatesModel" "caseY" "[I") (by decide +kernel)
  have hfl56 := hts (.fieldLink RX11 56 "PlyPlatesModel" "caseS" "[I") (by decide +kernel)
  have main : ∀ (H : Heap) (locs : List Loc), TW D cy κ G H → va_S (AA κ) s.heap H locs → W p l e rmX11_holdsAll s m args below meth c H locs 0 0 Q (F0 m 0 ls []) := by
    intro H locs hT hS
    refine lv_iconst (v := (0 : Int32)) hx hb dX11_holdsAll_0 (by decide) ?_
    refine lv_istore_n (lv' := [(2, .int (0 : Int32)), (0, .ref p0), (1, .int p1)]) hx hb dX11_holdsAll_1 rfl hl (by decide) rfl (fun ls hl => ?_)
    have L2 : ∀ (nn : Nat) (H : Heap) (locs : List Loc) (ls : Array Slot) (u1 : Gh) (x2 : Int32), (nn = (2147483647 - x2.toInt).toNat) → (fG u1 G) → (TW D cy κ u1 H) → (va_S (AA κ) s.heap H locs) → (lv_has ls 3 [(2, .int x2), (0, .ref p0), (1, .int p1)]) → (0 ≤ x2.toInt ∧ x2.toInt ≤ 4) → W p l e rmX11_holdsAll s m args below meth c H locs 0 0 Q (F0 m 2 ls []) := by
      intro nn
      induction nn using Nat.strongRecOn with
      | _ nn ih2 =>
        intro H locs ls u1 x2 hnn qu1 hT hS hl fL2_0
        refine lv_iload_n hx hb dX11_holdsAll_2 rfl (lv_at hl 0 rfl) ?_
        refine lv_aload_n hx hb dX11_holdsAll_3 rfl (lv_at hl 1 rfl) ?_
        refine gf_11_2 hx hb hts hin11 hown hK hT k0 hfl206 dX11_holdsAll_4 (fun x3 kx3 fvx3 => ?_)
        have gx3 := congrArg Int32.toInt kx3.1
        have zz4 : (u1.1 (5)).toInt = (G.1 (5)).toInt := congrArg Int32.toInt (qu1 (5) (by omega))
        refine tb_icmp_ge (tgt := 44) hx hb dX11_holdsAll_7 (by decide) (fun c5 => ?_) (fun c5 => ?_)
        · skip
          refine lv_iconst (v := (1 : Int32)) hx hb dX11_holdsAll_44 (by decide) ?_
          exact hret H locs ls 45 (1 : Int32) u1 dX11_holdsAll_45 (by omega) ⟨qu1, by omega⟩ hT hS
        · skip
          refine lv_aload_n hx hb dX11_holdsAll_10 rfl (lv_at hl 1 rfl) ?_
          refine lv_iload_n hx hb dX11_holdsAll_11 rfl (lv_at hl 2 rfl) ?_
          refine lv_aload_n hx hb dX11_holdsAll_12 rfl (lv_at hl 1 rfl) ?_
          refine gf_11_18 hx hb hts hin11 hown hK hT k0 hfl50 dX11_holdsAll_13 (fun a6 ka6 fva6 => ?_)
          refine lv_iload_n hx hb dX11_holdsAll_16 rfl (lv_at hl 0 rfl) ?_
          refine tw_ia (K := 1004) (n := 4) (P := fun _ => True) hx hb hK hT ka6 (by decide) rfl rfl (by omega) rfl dX11_holdsAll_17 (fun x7 _ fvx7 => ?_)
          refine lv_aload_n hx hb dX11_holdsAll_18 rfl (lv_at hl 1 rfl) ?_
          refine gf_11_19 hx hb hts hin11 hown hK hT k0 hfl53 dX11_holdsAll_19 (fun a8 ka8 fva8 => ?_)
          refine lv_iload_n hx hb dX11_holdsAll_22 rfl (lv_at hl 0 rfl) ?_
          refine tw_ia (K := 1004) (n := 4) (P := fun _ => True) hx hb hK hT ka8 (by decide) rfl rfl (by omega) rfl dX11_holdsAll_23 (fun x9 _ fvx9 => ?_)
          refine lv_aload_n hx hb dX11_holdsAll_24 rfl (lv_at hl 1 rfl) ?_
          refine gf_11_20 hx hb hts hin11 hown hK hT k0 hfl56 dX11_holdsAll_25 (fun a10 ka10 fva10 => ?_)
          refine lv_iload_n hx hb dX11_holdsAll_28 rfl (lv_at hl 0 rfl) ?_
          refine tw_ia (K := 1004) (n := 4) (P := fun _ => True) hx hb hK hT ka10 (by decide) rfl rfl (by omega) rfl dX11_holdsAll_29 (fun x11 _ fvx11 => ?_)
          refine tw_Vi (q := (RX11, TX11, 31)) (As := [.int p1, .int x7, .int x9, .int x11]) (rest := []) ⟨hx, hb, hml, hown, hts⟩ (c_X11_isHeld l D cy κ u1 p0 k0 p1 (by omega) x7 x9 x11) (cwV 4 hts gX11_holdsAll_X11_isHeld rfl rfl rfl (by decide +kernel) ⟨Nat.le_of_ble_eq_true rfl, Nat.le_of_ble_eq_true rfl⟩) hK hT hS k0 (by decide) rfl rfl hl.1 rfl (Nat.le_of_ble_eq_true rfl) dX11_holdsAll_30 ⟨Nat.zero_le _, Nat.zero_le _⟩ (fun x12 u13 H locs hpu13 hT hS => ?_)
          obtain ⟨qu13, ru13⟩ := hpu13
          refine tb_if_ne (tgt := 38) hx hb dX11_holdsAll_33 (by decide) (fun c14 => ?_) (fun c14 => ?_)
          · skip
            obtain ⟨x15, ex15⟩ : ∃ z : Int32, z = x2 + (1 : Int32) := ⟨_, rfl⟩
            refine lv_iinc (v := x15) (lv' := [(2, .int x15), (0, .ref p0), (1, .int p1)]) hx hb dX11_holdsAll_38 hl (k := 0) rfl (by rw [ex15]; rfl) (by decide) rfl (fun ls hl => ?_)
            have tx15 : x15.toInt = x2.toInt + 1 := by rw [ex15, ti_add (by have := i32b x2; have := i32b p1; omega), hc1]
            refine lv_goto (tgt := 2) hx hb dX11_holdsAll_41 (by decide) ?_
            exact ih2 ((2147483647 - x15.toInt).toNat) (by have := i32b x15; have := i32b p1; omega) H locs ls u13 x15 rfl (fG.tr_fG qu13 qu1) hT hS (lv_sub hl [0, 1, 2] rfl) (by omega)
          · skip
            refine lv_iconst (v := (0 : Int32)) hx hb dX11_holdsAll_36 (by decide) ?_
            exact hret H locs ls 37 (0 : Int32) u13 dX11_holdsAll_37 (by omega) ⟨(fG.tr_fG qu13 qu1), by omega⟩ hT hS
    exact L2 _ H locs ls G (0 : Int32) rfl (fG.rf G) hT hS (lv_sub hl [0, 1, 2] rfl) (by omega)
  exact main s.heap [] hT va_S.rf

abbrev rmX11_holds : Room := { frames := 5, cells := 0, slots := 0, locals := 155 }
set_option maxHeartbeats 4000000 in
set_option maxRecDepth 100000 in
theorem c_X11_holds (l : Launch) (D : va_G) (cy : Nat → ClassId) (κ : Nat → Nat) (G : Gh) (p0 : Nat) (k0 : κ p0 = 12) (p1 : Int32) (p2 : Int32) (p3 : Int32) (p4 : Int32) : Met l yX11_holds wsX11_holds rmX11_holds (va_Pc [.ref p0, .int p1, .int p2, .int p3, .int p4] (fun U => WW D cy κ G U)) (va_Qi (fun (r : Int32) (u : Gh) => cntG u G ∧ (True)) (fun u t => WW D cy κ u t) (AA κ)) 0 0 (AA κ) := by
  refine Met.twi (cc := cX11_holds) (maxL := 5) (by decide) rfl (Nat.le_of_ble_eq_true rfl) ?_
  intro p e s m args below meth c Q hx hb hml hown hts hK hT hret ls hl
  have hl : lv_has ls 5 [(0, .ref p0), (1, .int p1), (2, .int p2), (3, .int p3), (4, .int p4)] := hl
  have hc0 : (0 : Int32).toInt = 0 := rfl
  have hc1 : (1 : Int32).toInt = 1 := rfl
  have hcm2 : (-2 : Int32).toInt = -2 := rfl
  have hcm1 : (-1 : Int32).toInt = -1 := rfl
  have main : ∀ (H : Heap) (locs : List Loc), TW D cy κ G H → va_S (AA κ) s.heap H locs → W p l e rmX11_holds s m args below meth c H locs 0 0 Q (F0 m 0 ls []) := by
    intro H locs hT hS
    refine lv_aload_n hx hb dX11_holds_0 rfl (lv_at hl 0 rfl) ?_
    refine lv_iload_n hx hb dX11_holds_1 rfl (lv_at hl 1 rfl) ?_
    refine tw_Vi (q := (RX11, TX11, 31)) (As := [.int p1]) (rest := []) ⟨hx, hb, hml, hown, hts⟩ (c_X11_isPlate l D cy κ G p0 k0 p1) (cwV 1 hts gX11_holds_X11_isPlate rfl rfl rfl (by decide +kernel) ⟨Nat.le_of_ble_eq_true rfl, Nat.le_of_ble_eq_true rfl⟩) hK hT hS k0 (by decide) rfl rfl hl.1 rfl (Nat.le_of_ble_eq_true rfl) dX11_holds_2 ⟨Nat.zero_le _, Nat.zero_le _⟩ (fun x1 u2 H locs hpu2 hT hS => ?_)
    obtain ⟨huu2, qu2⟩ := hpu2
    rw [huu2] at hT
    refine tb_if_ne (tgt := 10) hx hb dX11_holds_5 (by decide) (fun c3 => ?_) (fun c3 => ?_)
    · skip
      have wp1_c3 : 0 ≤ p1.toInt ∧ p1.toInt ≤ 3 := by omega
      clear qu2
      refine lv_iload_n hx hb dX11_holds_10 rfl (lv_at hl 2 rfl) ?_
      refine lv_iload_n hx hb dX11_holds_11 rfl (lv_at hl 3 rfl) ?_
      refine lv_iload hx hb dX11_holds_12 (lv_at hl 4 rfl) ?_
      refine tw_Si (As := [.int p2, .int p3, .int p4]) (rest := []) ⟨hx, hb, hml, hown, hts⟩ (c_X11_isLoad l D cy κ G p2 p3 p4) (va_cwS 3 hts gX11_holds_X11_isLoad rfl rfl rfl (by decide +kernel) ⟨Nat.le_of_ble_eq_true rfl, Nat.le_of_ble_eq_true rfl⟩) hK hT hS rfl hl.1 rfl (Nat.le_of_ble_eq_true rfl) dX11_holds_14 ⟨Nat.zero_le _, Nat.zero_le _⟩ (fun x4 u5 H locs hpu5 hT hS => ?_)
      obtain ⟨huu5, qu5⟩ := hpu5
      rw [huu5] at hT
      refine tb_if_ne (tgt := 23) hx hb dX11_holds_17 (by decide) (fun c6 => ?_) (fun c6 => ?_)
      · skip
        have wp2_c6 : -100 ≤ p2.toInt ∧ p2.toInt ≤ 100 := by omega
        have wp3_c6 : -100 ≤ p3.toInt ∧ p3.toInt ≤ 100 := by omega
        have wp4_c6 : -100 ≤ p4.toInt ∧ p4.toInt ≤ 100 := by omega
        clear qu5
        refine lv_aload_n hx hb dX11_holds_23 rfl (lv_at hl 0 rfl) ?_
        refine lv_iload_n hx hb dX11_holds_24 rfl (lv_at hl 1 rfl) ?_
        refine lv_iload_n hx hb dX11_holds_25 rfl (lv_at hl 2 rfl) ?_
        refine lv_iload_n hx hb dX11_holds_26 rfl (lv_at hl 3 rfl) ?_
        refine lv_iload hx hb dX11_holds_27 (lv_at hl 4 rfl) ?_
        refine tw_Vi (q := (RX11, TX11, 31)) (As := [.int p1, .int p2, .int p3, .int p4]) (rest := []) ⟨hx, hb, hml, hown, hts⟩ (c_X11_isHeld l D cy κ G p0 k0 p1 (by omega) p2 p3 p4) (cwV 4 hts gX11_holds_X11_isHeld rfl rfl rfl (by decide +kernel) ⟨Nat.le_of_ble_eq_true rfl, Nat.le_of_ble_eq_true rfl⟩) hK hT hS k0 (by decide) rfl rfl hl.1 rfl (Nat.le_of_ble_eq_true rfl) dX11_holds_29 ⟨Nat.zero_le _, Nat.zero_le _⟩ (fun x7 u8 H locs hpu8 hT hS => ?_)
        obtain ⟨qu8, ru8⟩ := hpu8
        refine tb_if_eq (tgt := 39) hx hb dX11_holds_32 (by decide) (fun c9 => ?_) (fun c9 => ?_)
        · skip
          refine lv_iconst (v := (0 : Int32)) hx hb dX11_holds_39 (by decide) ?_
          exact hret H locs ls 40 (0 : Int32) u8 dX11_holds_40 ⟨(cntG.tr_fG qu8 (cntG.rf G)), trivial⟩ hT hS
        · skip
          refine lv_iconst (v := (1 : Int32)) hx hb dX11_holds_35 (by decide) ?_
          refine lv_goto (tgt := 40) hx hb dX11_holds_36 (by decide) ?_
          exact hret H locs ls 40 (1 : Int32) u8 dX11_holds_40 ⟨(cntG.tr_fG qu8 (cntG.rf G)), trivial⟩ hT hS
      · skip
        refine lv_bipush (v := (-2 : Int32)) hx hb dX11_holds_20 (by decide) ?_
        exact hret H locs ls 22 (-2 : Int32) G dX11_holds_22 ⟨(cntG.rf G), trivial⟩ hT hS
    · skip
      refine lv_iconst (v := (-1 : Int32)) hx hb dX11_holds_8 (by decide) ?_
      exact hret H locs ls 9 (-1 : Int32) G dX11_holds_9 ⟨(cntG.rf G), trivial⟩ hT hS
  exact main s.heap [] hT va_S.rf

abbrev rmX11_first : Room := { frames := 4, cells := 0, slots := 0, locals := 131 }
set_option maxHeartbeats 4000000 in
set_option maxRecDepth 100000 in
theorem c_X11_first (l : Launch) (D : va_G) (cy : Nat → ClassId) (κ : Nat → Nat) (G : Gh) (p0 : Nat) (k0 : κ p0 = 12) (p1 : Int32) (p2 : Int32) (p3 : Int32) (p4 : Int32) : Met l yX11_first wsX11_first rmX11_first (va_Pc [.ref p0, .int p1, .int p2, .int p3, .int p4] (fun U => WW D cy κ G U)) (va_Qi (fun (r : Int32) (u : Gh) => cntG u G ∧ (True)) (fun u t => WW D cy κ u t) (AA κ)) 0 0 (AA κ) := by
  refine Met.twi (cc := cX11_first) (maxL := 5) (by decide) rfl (Nat.le_of_ble_eq_true rfl) ?_
  intro p e s m args below meth c Q hx hb hml hown hts hK hT hret ls hl
  have hl : lv_has ls 5 [(0, .ref p0), (1, .int p1), (2, .int p2), (3, .int p3), (4, .int p4)] := hl
  have hkl150 := hts (.constantLong RX11 150 (4)) (by decide +kernel)
  have hlk150 : (4 : Int64).toInt = 4 := rfl
  have hcm2 : (-2 : Int32).toInt = -2 := rfl
  have hcm1 : (-1 : Int32).toInt = -1 := rfl
  have main : ∀ (H : Heap) (locs : List Loc), TW D cy κ G H → va_S (AA κ) s.heap H locs → W p l e rmX11_first s m args below meth c H locs 0 0 Q (F0 m 0 ls []) := by
    intro H locs hT hS
    refine lv_aload_n hx hb dX11_first_0 rfl (lv_at hl 0 rfl) ?_
    refine lv_iload_n hx hb dX11_first_1 rfl (lv_at hl 1 rfl) ?_
    refine tw_Vi (q := (RX11, TX11, 31)) (As := [.int p1]) (rest := []) ⟨hx, hb, hml, hown, hts⟩ (c_X11_isPlate l D cy κ G p0 k0 p1) (cwV 1 hts gX11_first_X11_isPlate rfl rfl rfl (by decide +kernel) ⟨Nat.le_of_ble_eq_true rfl, Nat.le_of_ble_eq_true rfl⟩) hK hT hS k0 (by decide) rfl rfl hl.1 rfl (Nat.le_of_ble_eq_true rfl) dX11_first_2 ⟨Nat.zero_le _, Nat.zero_le _⟩ (fun x1 u2 H locs hpu2 hT hS => ?_)
    obtain ⟨huu2, qu2⟩ := hpu2
    rw [huu2] at hT
    refine tb_if_ne (tgt := 10) hx hb dX11_first_5 (by decide) (fun c3 => ?_) (fun c3 => ?_)
    · skip
      have wp1_c3 : 0 ≤ p1.toInt ∧ p1.toInt ≤ 3 := by omega
      clear qu2
      refine lv_iload_n hx hb dX11_first_10 rfl (lv_at hl 2 rfl) ?_
      refine lv_iload_n hx hb dX11_first_11 rfl (lv_at hl 3 rfl) ?_
      refine lv_iload hx hb dX11_first_12 (lv_at hl 4 rfl) ?_
      refine tw_Si (As := [.int p2, .int p3, .int p4]) (rest := []) ⟨hx, hb, hml, hown, hts⟩ (c_X11_isLoad l D cy κ G p2 p3 p4) (va_cwS 3 hts gX11_first_X11_isLoad rfl rfl rfl (by decide +kernel) ⟨Nat.le_of_ble_eq_true rfl, Nat.le_of_ble_eq_true rfl⟩) hK hT hS rfl hl.1 rfl (Nat.le_of_ble_eq_true rfl) dX11_first_14 ⟨Nat.zero_le _, Nat.zero_le _⟩ (fun x4 u5 H locs hpu5 hT hS => ?_)
      obtain ⟨huu5, qu5⟩ := hpu5
      rw [huu5] at hT
      refine tb_if_ne (tgt := 23) hx hb dX11_first_17 (by decide) (fun c6 => ?_) (fun c6 => ?_)
      · skip
        have wp2_c6 : -100 ≤ p2.toInt ∧ p2.toInt ≤ 100 := by omega
        have wp3_c6 : -100 ≤ p3.toInt ∧ p3.toInt ≤ 100 := by omega
        have wp4_c6 : -100 ≤ p4.toInt ∧ p4.toInt ≤ 100 := by omega
        clear qu5
        refine lv_aload_n hx hb dX11_first_23 rfl (lv_at hl 0 rfl) ?_
        refine lv_iload_n hx hb dX11_first_24 rfl (lv_at hl 1 rfl) ?_
        refine lv_ldc2 hx hb hown hkl150 dX11_first_25 ?_
        refine lv_iload_n hx hb dX11_first_28 rfl (lv_at hl 2 rfl) ?_
        refine lv_i2l hx hb dX11_first_29 rfl ?_
        refine lv_topl (fun y7 ey7 => ?_)
        have ty7 : y7.toInt = p2.toInt := by rw [ey7]; exact Int32.toInt_toInt64 p2
        refine lv_lmul hx hb dX11_first_30 ?_
        refine lv_topl (fun y8 ey8 => ?_)
        refine lv_ldc2 hx hb hown hkl150 dX11_first_31 ?_
        refine lv_iload_n hx hb dX11_first_34 rfl (lv_at hl 3 rfl) ?_
        refine lv_i2l hx hb dX11_first_35 rfl ?_
        refine lv_topl (fun y9 ey9 => ?_)
        have ty9 : y9.toInt = p3.toInt := by rw [ey9]; exact Int32.toInt_toInt64 p3
        refine lv_lmul hx hb dX11_first_36 ?_
        refine lv_topl (fun y10 ey10 => ?_)
        refine lv_ldc2 hx hb hown hkl150 dX11_first_37 ?_
        refine lv_iload hx hb dX11_first_40 (lv_at hl 4 rfl) ?_
        refine lv_i2l hx hb dX11_first_42 rfl ?_
        refine lv_topl (fun y11 ey11 => ?_)
        have ty11 : y11.toInt = p4.toInt := by rw [ey11]; exact Int32.toInt_toInt64 p4
        refine lv_lmul hx hb dX11_first_43 ?_
        refine lv_topl (fun y12 ey12 => ?_)
        refine tw_Vv (q := (RX11, TX11, 31)) (As := [.int p1, .long y8, .long y10, .long y12]) (rest := []) ⟨hx, hb, hml, hown, hts⟩ (c_X11_solve l D cy κ G p0 k0 p1 (by omega) y8 y10 y12) (cwV 4 hts gX11_first_X11_solve rfl rfl rfl (by decide +kernel) ⟨Nat.le_of_ble_eq_true rfl, Nat.le_of_ble_eq_true rfl⟩) hK hT hS k0 (by decide) rfl rfl hl.1 rfl (Nat.le_of_ble_eq_true rfl) dX11_first_44 ⟨Nat.zero_le _, Nat.zero_le _⟩ (fun u14 H locs hpu14 hT hS => ?_)
        obtain ⟨huu14, qu14⟩ := hpu14
        rw [huu14] at hT
        refine lv_aload_n hx hb dX11_first_47 rfl (lv_at hl 0 rfl) ?_
        refine lv_iload_n hx hb dX11_first_48 rfl (lv_at hl 1 rfl) ?_
        refine tw_Vi (q := (RX11, TX11, 31)) (As := [.int p1]) (rest := []) ⟨hx, hb, hml, hown, hts⟩ (c_X11_firstOf l D cy κ G p0 k0 p1 (by omega)) (cwV 1 hts gX11_first_X11_firstOf rfl rfl rfl (by decide +kernel) ⟨Nat.le_of_ble_eq_true rfl, Nat.le_of_ble_eq_true rfl⟩) hK hT hS k0 (by decide) rfl rfl hl.1 rfl (Nat.le_of_ble_eq_true rfl) dX11_first_49 ⟨Nat.zero_le _, Nat.zero_le _⟩ (fun x15 u16 H locs hpu16 hT hS => ?_)
        obtain ⟨qu16, ru16⟩ := hpu16
        exact hret H locs ls 52 x15 u16 dX11_first_52 ⟨(cntG.tr_fG qu16 (cntG.rf G)), trivial⟩ hT hS
      · skip
        refine lv_bipush (v := (-2 : Int32)) hx hb dX11_first_20 (by decide) ?_
        exact hret H locs ls 22 (-2 : Int32) G dX11_first_22 ⟨(cntG.rf G), trivial⟩ hT hS
    · skip
      refine lv_iconst (v := (-1 : Int32)) hx hb dX11_first_8 (by decide) ?_
      exact hret H locs ls 9 (-1 : Int32) G dX11_first_9 ⟨(cntG.rf G), trivial⟩ hT hS
  exact main s.heap [] hT va_S.rf

abbrev rmX11_factor : Room := { frames := 4, cells := 0, slots := 0, locals := 131 }
set_option maxHeartbeats 4000000 in
set_option maxRecDepth 100000 in
theorem c_X11_factor (l : Launch) (D : va_G) (cy : Nat → ClassId) (κ : Nat → Nat) (G : Gh) (p0 : Nat) (k0 : κ p0 = 12) (p1 : Int32) (p2 : Int32) (p3 : Int32) (p4 : Int32) (p5 : Int32) : Met l yX11_factor wsX11_factor rmX11_factor (va_Pc [.ref p0, .int p1, .int p2, .int p3, .int p4, .int p5] (fun U => WW D cy κ G U)) (va_Ql (fun (r : Int64) (u : Gh) => cntG u G ∧ (True)) (fun u t => WW D cy κ u t) (AA κ)) 0 0 (AA κ) := by
  refine Met.twl (cc := cX11_factor) (maxL := 6) (by decide) rfl (Nat.le_of_ble_eq_true rfl) ?_
  intro p e s m args below meth c Q hx hb hml hown hts hK hT hret ls hl
  have hl : lv_has ls 6 [(0, .ref p0), (1, .int p1), (2, .int p2), (3, .int p3), (4, .int p4), (5, .int p5)] := hl
  have hkl112 := hts (.constantLong RX11 112 (-9223372036854775808)) (by decide +kernel)
  have hlk112 : (-9223372036854775808 : Int64).toInt = -9223372036854775808 := rfl
  have hc0 : (0 : Int32).toInt = 0 := rfl
  have hc1 : (1 : Int32).toInt = 1 := rfl
  have hkl150 := hts (.constantLong RX11 150 (4)) (by decide +kernel)
  have hlk150 : (4 : Int64).toInt = 4 := rfl
  have hcm1 : (-1 : Int32).toInt = -1 := rfl
  have main : ∀ (H : Heap) (locs : List Loc), TW D cy κ G H → va_S (AA κ) s.heap H locs → W p l e rmX11_factor s m args below meth c H locs 0 0 Q (F0 m 0 ls []) := by
    intro H locs hT hS
    refine lv_aload_n hx hb dX11_factor_0 rfl (lv_at hl 0 rfl) ?_
    refine lv_iload_n hx hb dX11_factor_1 rfl (lv_at hl 1 rfl) ?_
    refine tw_Vi (q := (RX11, TX11, 31)) (As := [.int p1]) (rest := []) ⟨hx, hb, hml, hown, hts⟩ (c_X11_isPlate l D cy κ G p0 k0 p1) (cwV 1 hts gX11_factor_X11_isPlate rfl rfl rfl (by decide +kernel) ⟨Nat.le_of_ble_eq_true rfl, Nat.le_of_ble_eq_true rfl⟩) hK hT hS k0 (by decide) rfl rfl hl.1 rfl (Nat.le_of_ble_eq_true rfl) dX11_factor_2 ⟨Nat.zero_le _, Nat.zero_le _⟩ (fun x1 u2 H locs hpu2 hT hS => ?_)
    obtain ⟨huu2, qu2⟩ := hpu2
    rw [huu2] at hT
    refine tb_if_eq (tgt := 28) hx hb dX11_factor_5 (by decide) (fun c3 => ?_) (fun c3 => ?_)
    · skip
      refine lv_ldc2 hx hb hown hkl112 dX11_factor_28 ?_
      exact hret H locs ls 31 (-9223372036854775808 : Int64) G dX11_factor_31 ⟨(cntG.rf G), trivial⟩ hT hS
    · skip
      have wp1_c3 : 0 ≤ p1.toInt ∧ p1.toInt ≤ 3 := by omega
      clear qu2
      refine lv_iload_n hx hb dX11_factor_8 rfl (lv_at hl 2 rfl) ?_
      refine lv_iload_n hx hb dX11_factor_9 rfl (lv_at hl 3 rfl) ?_
      refine lv_iload hx hb dX11_factor_10 (lv_at hl 4 rfl) ?_
      refine tw_Si (As := [.int p2, .int p3, .int p4]) (rest := []) ⟨hx, hb, hml, hown, hts⟩ (c_X11_isLoad l D cy κ G p2 p3 p4) (va_cwS 3 hts gX11_factor_X11_isLoad rfl rfl rfl (by decide +kernel) ⟨Nat.le_of_ble_eq_true rfl, Nat.le_of_ble_eq_true rfl⟩) hK hT hS rfl hl.1 rfl (Nat.le_of_ble_eq_true rfl) dX11_factor_12 ⟨Nat.zero_le _, Nat.zero_le _⟩ (fun x4 u5 H locs hpu5 hT hS => ?_)
      obtain ⟨huu5, qu5⟩ := hpu5
      rw [huu5] at hT
      refine tb_if_eq (tgt := 28) hx hb dX11_factor_15 (by decide) (fun c6 => ?_) (fun c6 => ?_)
      · skip
        refine lv_ldc2 hx hb hown hkl112 dX11_factor_28 ?_
        exact hret H locs ls 31 (-9223372036854775808 : Int64) G dX11_factor_31 ⟨(cntG.rf G), trivial⟩ hT hS
      · skip
        have wp2_c6 : -100 ≤ p2.toInt ∧ p2.toInt ≤ 100 := by omega
        have wp3_c6 : -100 ≤ p3.toInt ∧ p3.toInt ≤ 100 := by omega
        have wp4_c6 : -100 ≤ p4.toInt ∧ p4.toInt ≤ 100 := by omega
        clear qu5
        refine lv_iload hx hb dX11_factor_18 (lv_at hl 5 rfl) ?_
        refine lv_iconst (v := (0 : Int32)) hx hb dX11_factor_20 (by decide) ?_
        refine lv_iconst (v := (1 : Int32)) hx hb dX11_factor_21 (by decide) ?_
        refine tw_Si (As := [.int p5, .int (0 : Int32), .int (1 : Int32)]) (rest := []) ⟨hx, hb, hml, hown, hts⟩ (c_X11_isIn l D cy κ G p5 (0 : Int32) (1 : Int32)) (va_cwS 3 hts gX11_factor_X11_isIn rfl rfl rfl (by decide +kernel) ⟨Nat.le_of_ble_eq_true rfl, Nat.le_of_ble_eq_true rfl⟩) hK hT hS rfl hl.1 rfl (Nat.le_of_ble_eq_true rfl) dX11_factor_22 ⟨Nat.zero_le _, Nat.zero_le _⟩ (fun x7 u8 H locs hpu8 hT hS => ?_)
        obtain ⟨huu8, qu8⟩ := hpu8
        rw [huu8] at hT
        refine tb_if_ne (tgt := 32) hx hb dX11_factor_25 (by decide) (fun c9 => ?_) (fun c9 => ?_)
        · skip
          have wp5_c9 : 0 ≤ p5.toInt ∧ p5.toInt ≤ 1 := by omega
          clear qu8
          refine lv_aload_n hx hb dX11_factor_32 rfl (lv_at hl 0 rfl) ?_
          refine lv_iload_n hx hb dX11_factor_33 rfl (lv_at hl 1 rfl) ?_
          refine lv_ldc2 hx hb hown hkl150 dX11_factor_34 ?_
          refine lv_iload_n hx hb dX11_factor_37 rfl (lv_at hl 2 rfl) ?_
          refine lv_i2l hx hb dX11_factor_38 rfl ?_
          refine lv_topl (fun y10 ey10 => ?_)
          have ty10 : y10.toInt = p2.toInt := by rw [ey10]; exact Int32.toInt_toInt64 p2
          refine lv_lmul hx hb dX11_factor_39 ?_
          refine lv_topl (fun y11 ey11 => ?_)
          refine lv_ldc2 hx hb hown hkl150 dX11_factor_40 ?_
          refine lv_iload_n hx hb dX11_factor_43 rfl (lv_at hl 3 rfl) ?_
          refine lv_i2l hx hb dX11_factor_44 rfl ?_
          refine lv_topl (fun y12 ey12 => ?_)
          have ty12 : y12.toInt = p3.toInt := by rw [ey12]; exact Int32.toInt_toInt64 p3
          refine lv_lmul hx hb dX11_factor_45 ?_
          refine lv_topl (fun y13 ey13 => ?_)
          refine lv_ldc2 hx hb hown hkl150 dX11_factor_46 ?_
          refine lv_iload hx hb dX11_factor_49 (lv_at hl 4 rfl) ?_
          refine lv_i2l hx hb dX11_factor_51 rfl ?_
          refine lv_topl (fun y14 ey14 => ?_)
          have ty14 : y14.toInt = p4.toInt := by rw [ey14]; exact Int32.toInt_toInt64 p4
          refine lv_lmul hx hb dX11_factor_52 ?_
          refine lv_topl (fun y15 ey15 => ?_)
          refine tw_Vv (q := (RX11, TX11, 31)) (As := [.int p1, .long y11, .long y13, .long y15]) (rest := []) ⟨hx, hb, hml, hown, hts⟩ (c_X11_solve l D cy κ G p0 k0 p1 (by omega) y11 y13 y15) (cwV 4 hts gX11_factor_X11_solve rfl rfl rfl (by decide +kernel) ⟨Nat.le_of_ble_eq_true rfl, Nat.le_of_ble_eq_true rfl⟩) hK hT hS k0 (by decide) rfl rfl hl.1 rfl (Nat.le_of_ble_eq_true rfl) dX11_factor_53 ⟨Nat.zero_le _, Nat.zero_le _⟩ (fun u17 H locs hpu17 hT hS => ?_)
          obtain ⟨huu17, qu17⟩ := hpu17
          rw [huu17] at hT
          refine lv_aload_n hx hb dX11_factor_56 rfl (lv_at hl 0 rfl) ?_
          refine lv_iload_n hx hb dX11_factor_57 rfl (lv_at hl 1 rfl) ?_
          refine tw_Vi (q := (RX11, TX11, 31)) (As := [.int p1]) (rest := []) ⟨hx, hb, hml, hown, hts⟩ (c_X11_firstOf l D cy κ G p0 k0 p1 (by omega)) (cwV 1 hts gX11_factor_X11_firstOf rfl rfl rfl (by decide +kernel) ⟨Nat.le_of_ble_eq_true rfl, Nat.le_of_ble_eq_true rfl⟩) hK hT hS k0 (by decide) rfl rfl hl.1 rfl (Nat.le_of_ble_eq_true rfl) dX11_factor_58 ⟨Nat.zero_le _, Nat.zero_le _⟩ (fun x18 u19 H locs hpu19 hT hS => ?_)
          obtain ⟨qu19, ru19⟩ := hpu19
          refine lv_iconst (v := (-1 : Int32)) hx hb dX11_factor_61 (by decide) ?_
          refine tb_icmp_ne (tgt := 71) hx hb dX11_factor_62 (by decide) (fun c20 => ?_) (fun c20 => ?_)
          · skip
            refine lv_aload_n hx hb dX11_factor_71 rfl (lv_at hl 0 rfl) ?_
            refine lv_iload hx hb dX11_factor_72 (lv_at hl 5 rfl) ?_
            refine tw_Vl (q := (RX11, TX11, 31)) (As := [.int p5]) (rest := []) ⟨hx, hb, hml, hown, hts⟩ (c_X11_factorOf l D cy κ u19 p0 k0 p5 (by omega) (by omega)) (cwV 1 hts gX11_factor_X11_factorOf rfl rfl rfl (by decide +kernel) ⟨Nat.le_of_ble_eq_true rfl, Nat.le_of_ble_eq_true rfl⟩) hK hT hS k0 (by decide) rfl rfl hl.1 rfl (Nat.le_of_ble_eq_true rfl) dX11_factor_74 ⟨Nat.zero_le _, Nat.zero_le _⟩ (fun y21 u22 H locs hpu22 hT hS => ?_)
            obtain ⟨huu22, qu22⟩ := hpu22
            rw [huu22] at hT
            exact hret H locs ls 77 y21 u19 dX11_factor_77 ⟨(cntG.tr_fG qu19 (cntG.rf G)), trivial⟩ hT hS
          · skip
            refine lv_ldc2 hx hb hown hkl112 dX11_factor_65 ?_
            refine lv_goto (tgt := 77) hx hb dX11_factor_68 (by decide) ?_
            exact hret H locs ls 77 (-9223372036854775808 : Int64) u19 dX11_factor_77 ⟨(cntG.tr_fG qu19 (cntG.rf G)), trivial⟩ hT hS
        · skip
          refine lv_ldc2 hx hb hown hkl112 dX11_factor_28 ?_
          exact hret H locs ls 31 (-9223372036854775808 : Int64) G dX11_factor_31 ⟨(cntG.rf G), trivial⟩ hT hS
  exact main s.heap [] hT va_S.rf
