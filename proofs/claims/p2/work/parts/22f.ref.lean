abbrev rmX11_breaks : Room := { frames := 4, cells := 0, slots := 0, locals := 131 }
set_option maxHeartbeats 4000000 in
set_option maxRecDepth 100000 in
theorem c_X11_breaks (l : Launch) (D : va_G) (cy : Nat → ClassId) (κ : Nat → Nat) (G : Gh) (p0 : Nat) (k0 : κ p0 = 12) (p1 : Int32) (p2 : Int32) (p3 : Int32) (p4 : Int32) : Met l yX11_breaks wsX11_breaks rmX11_breaks (va_Pc [.ref p0, .int p1, .int p2, .int p3, .int p4] (fun U => WW D cy κ G U)) (va_Qi (fun (r : Int32) (u : Gh) => cntG u G ∧ (True)) (fun u t => WW D cy κ u t) (AA κ)) 0 0 (AA κ) := by
  refine Met.twi (cc := cX11_breaks) (maxL := 7) (by decide) rfl (Nat.le_of_ble_eq_true rfl) ?_
  intro p e s m args below meth c Q hx hb hml hown hts hK hT hret ls hl
  have hl : lv_has ls 7 [(0, .ref p0), (1, .int p1), (2, .int p2), (3, .int p3), (4, .int p4)] := hl
  have hc4 : (4 : Int32).toInt = 4 := rfl
  have hc0 : (0 : Int32).toInt = 0 := rfl
  have hfl194 := hts (.fieldLink RX11 194 "PlyPlatesModel" "steps" "I") (by decide +kernel)
  have hin11 : ∀ w ∈ u_ws RX11 TX11 31, w ∈ wsX11_breaks := by decide +kernel
  have hc1 : (1 : Int32).toInt = 1 := rfl
  have hkl150 := hts (.constantLong RX11 150 (4)) (by decide +kernel)
  have hlk150 : (4 : Int64).toInt = 4 := rfl
  have hcm1 : (-1 : Int32).toInt = -1 := rfl
  have hfl59 := hts (.fieldLink RX11 59 "PlyPlatesModel" "stepWhat" "[I") (by decide +kernel)
  have hfl62 := hts (.fieldLink RX11 62 "PlyPlatesModel" "stepAbove" "[J") (by decide +kernel)
  have hfl66 := hts (.fieldLink RX11 66 "PlyPlatesModel" "stepBelow" "[J") (by decide +kernel)
  have hfl47 := hts (.fieldLink RX11 47 "PlyPlatesModel" "broken" "[I") (by decide +kernel)
  have hc10 : (10 : Int32).toInt = 10 := rfl
  have hc2 : (2 : Int32).toInt = 2 := rfl
  have hcm2 : (-2 : Int32).toInt = -2 := rfl
  have main : ∀ (H : Heap) (locs : List Loc), TW D cy κ G H → va_S (AA κ) s.heap H locs → W p l e rmX11_breaks s m args below meth c H locs 0 0 Q (F0 m 0 ls []) := by
    intro H locs hT hS
    have hk9 := TW.k9 hT k0
    refine lv_aload_n hx hb dX11_breaks_0 rfl (lv_at hl 0 rfl) ?_
    refine lv_iload_n hx hb dX11_breaks_1 rfl (lv_at hl 1 rfl) ?_
    refine tw_Vi (q := (RX11, TX11, 31)) (As := [.int p1]) (rest := []) ⟨hx, hb, hml, hown, hts⟩ (c_X11_isPlate l D cy κ G p0 k0 p1) (cwV 1 hts gX11_breaks_X11_isPlate rfl rfl rfl (by decide +kernel) ⟨Nat.le_of_ble_eq_true rfl, Nat.le_of_ble_eq_true rfl⟩) hK hT hS k0 (by decide) rfl rfl hl.1 rfl (Nat.le_of_ble_eq_true rfl) dX11_breaks_2 ⟨Nat.zero_le _, Nat.zero_le _⟩ (fun x1 u2 H locs hpu2 hT hS => ?_)
    obtain ⟨huu2, qu2⟩ := hpu2
    rw [huu2] at hT
    refine tb_if_ne (tgt := 10) hx hb dX11_breaks_5 (by decide) (fun c3 => ?_) (fun c3 => ?_)
    · skip
      have wp1_c3 : 0 ≤ p1.toInt ∧ p1.toInt ≤ 3 := by omega
      clear qu2
      refine lv_iload_n hx hb dX11_breaks_10 rfl (lv_at hl 2 rfl) ?_
      refine lv_iload_n hx hb dX11_breaks_11 rfl (lv_at hl 3 rfl) ?_
      refine lv_iload hx hb dX11_breaks_12 (lv_at hl 4 rfl) ?_
      refine tw_Si (As := [.int p2, .int p3, .int p4]) (rest := []) ⟨hx, hb, hml, hown, hts⟩ (c_X11_isLoad l D cy κ G p2 p3 p4) (va_cwS 3 hts gX11_breaks_X11_isLoad rfl rfl rfl (by decide +kernel) ⟨Nat.le_of_ble_eq_true rfl, Nat.le_of_ble_eq_true rfl⟩) hK hT hS rfl hl.1 rfl (Nat.le_of_ble_eq_true rfl) dX11_breaks_14 ⟨Nat.zero_le _, Nat.zero_le _⟩ (fun x4 u5 H locs hpu5 hT hS => ?_)
      obtain ⟨huu5, qu5⟩ := hpu5
      rw [huu5] at hT
      refine tb_if_ne (tgt := 23) hx hb dX11_breaks_17 (by decide) (fun c6 => ?_) (fun c6 => ?_)
      · skip
        have wp2_c6 : -100 ≤ p2.toInt ∧ p2.toInt ≤ 100 := by omega
        have wp3_c6 : -100 ≤ p3.toInt ∧ p3.toInt ≤ 100 := by omega
        have wp4_c6 : -100 ≤ p4.toInt ∧ p4.toInt ≤ 100 := by omega
        clear qu5
        refine lv_aload_n hx hb dX11_breaks_23 rfl (lv_at hl 0 rfl) ?_
        refine lv_iload_n hx hb dX11_breaks_24 rfl (lv_at hl 1 rfl) ?_
        refine lv_iconst (v := (4 : Int32)) hx hb dX11_breaks_25 (by decide) ?_
        refine tw_Vv (q := (RX11, TX11, 31)) (As := [.int p1, .int (4 : Int32)]) (rest := []) ⟨hx, hb, hml, hown, hts⟩ (c_X11_copies l D cy κ G p0 k0 p1 (by omega) (4 : Int32) (by omega) (by omega)) (cwV 2 hts gX11_breaks_X11_copies rfl rfl rfl (by decide +kernel) ⟨Nat.le_of_ble_eq_true rfl, Nat.le_of_ble_eq_true rfl⟩) hK hT hS k0 (by decide) rfl rfl hl.1 rfl (Nat.le_of_ble_eq_true rfl) dX11_breaks_26 ⟨Nat.zero_le _, Nat.zero_le _⟩ (fun u8 H locs hpu8 hT hS => ?_)
        obtain ⟨qu8, ru8⟩ := hpu8
        have hk9 := TW.k9 hT k0
        refine lv_aload_n hx hb dX11_breaks_29 rfl (lv_at hl 0 rfl) ?_
        refine lv_iconst (v := (0 : Int32)) hx hb dX11_breaks_30 (by decide) ?_
        refine pc_11_30 hx hb hts hin11 hown hK hT hS k0 hfl194 dX11_breaks_31 (by omega) (fun H locs hT hS => ?_)
        obtain ⟨u9, eu9⟩ : ∃ u : Gh, u = cG u8 (6) (0 : Int32) := ⟨_, rfl⟩
        rw [← eu9] at hT
        have au9 : (u9.1 (6)).toInt = (0 : Int32).toInt := by rw [eu9, cG_at]
        have bu9 : ∀ j, j ≠ 6 → u9.1 j = u8.1 j := fun j hj => by rw [eu9]; exact if_neg hj
        have du9 : u9.2 = u8.2 := by rw [eu9]; rfl
        refine lv_iconst (v := (1 : Int32)) hx hb dX11_breaks_34 (by decide) ?_
        refine lv_istore (lv' := [(5, .int (1 : Int32)), (0, .ref p0), (1, .int p1), (2, .int p2), (3, .int p3), (4, .int p4)]) hx hb dX11_breaks_35 hl (by decide) rfl (fun ls hl => ?_)
        have L37 : ∀ (nn : Nat) (H : Heap) (locs : List Loc) (ls : Array Slot) (u10 : Gh) (x11 : Int32), (nn = (2 * msrN u10 12 + x11.toInt.toNat)) → (cntG u10 G) → (TW D cy κ u10 H) → (va_S (AA κ) s.heap H locs) → (lv_has ls 7 [(5, .int x11), (0, .ref p0), (1, .int p1), (2, .int p2), (3, .int p3), (4, .int p4)]) → (0 ≤ x11.toInt ∧ x11.toInt ≤ 1) → ((u10.1 6).toInt + (msrN u10 12 : Nat) ≤ 24) → W p l e rmX11_breaks s m args below meth c H locs 0 0 Q (F0 m 37 ls []) := by
          intro nn
          induction nn using Nat.strongRecOn with
          | _ nn ih37 =>
            intro H locs ls u10 x11 hnn qu10 hT hS hl fL37_0 fL37_1
            have hk9 := TW.k9 hT k0
            refine lv_iload hx hb dX11_breaks_37 (lv_at hl 0 rfl) ?_
            refine tb_if_eq (tgt := 174) hx hb dX11_breaks_39 (by decide) (fun c12 => ?_) (fun c12 => ?_)
            · skip
              refine lv_aload_n hx hb dX11_breaks_174 rfl (lv_at hl 1 rfl) ?_
              refine gf_11_30 hx hb hts hin11 hown hK hT k0 hfl194 dX11_breaks_175 (fun x13 kx13 fvx13 => ?_)
              have gx13 := congrArg Int32.toInt kx13.1
              exact hret H locs ls 178 x13 u10 dX11_breaks_178 ⟨qu10, trivial⟩ hT hS
            · skip
              refine lv_aload_n hx hb dX11_breaks_42 rfl (lv_at hl 1 rfl) ?_
              refine lv_iconst (v := (4 : Int32)) hx hb dX11_breaks_43 (by decide) ?_
              refine lv_ldc2 hx hb hown hkl150 dX11_breaks_44 ?_
              refine lv_iload_n hx hb dX11_breaks_47 rfl (lv_at hl 3 rfl) ?_
              refine lv_i2l hx hb dX11_breaks_48 rfl ?_
              refine lv_topl (fun y14 ey14 => ?_)
              have ty14 : y14.toInt = p2.toInt := by rw [ey14]; exact Int32.toInt_toInt64 p2
              refine lv_lmul hx hb dX11_breaks_49 ?_
              refine lv_topl (fun y15 ey15 => ?_)
              refine lv_ldc2 hx hb hown hkl150 dX11_breaks_50 ?_
              refine lv_iload_n hx hb dX11_breaks_53 rfl (lv_at hl 4 rfl) ?_
              refine lv_i2l hx hb dX11_breaks_54 rfl ?_
              refine lv_topl (fun y16 ey16 => ?_)
              have ty16 : y16.toInt = p3.toInt := by rw [ey16]; exact Int32.toInt_toInt64 p3
              refine lv_lmul hx hb dX11_breaks_55 ?_
              refine lv_topl (fun y17 ey17 => ?_)
              refine lv_ldc2 hx hb hown hkl150 dX11_breaks_56 ?_
              refine lv_iload hx hb dX11_breaks_59 (lv_at hl 5 rfl) ?_
              refine lv_i2l hx hb dX11_breaks_61 rfl ?_
              refine lv_topl (fun y18 ey18 => ?_)
              have ty18 : y18.toInt = p4.toInt := by rw [ey18]; exact Int32.toInt_toInt64 p4
              refine lv_lmul hx hb dX11_breaks_62 ?_
              refine lv_topl (fun y19 ey19 => ?_)
              refine tw_Vv (q := (RX11, TX11, 31)) (As := [.int (4 : Int32), .long y15, .long y17, .long y19]) (rest := []) ⟨hx, hb, hml, hown, hts⟩ (c_X11_solve l D cy κ u10 p0 k0 (4 : Int32) (by omega) y15 y17 y19) (cwV 4 hts gX11_breaks_X11_solve rfl rfl rfl (by decide +kernel) ⟨Nat.le_of_ble_eq_true rfl, Nat.le_of_ble_eq_true rfl⟩) hK hT hS k0 (by decide) rfl rfl hl.1 rfl (Nat.le_of_ble_eq_true rfl) dX11_breaks_63 ⟨Nat.zero_le _, Nat.zero_le _⟩ (fun u21 H locs hpu21 hT hS => ?_)
              obtain ⟨huu21, qu21⟩ := hpu21
              rw [huu21] at hT
              refine lv_aload_n hx hb dX11_breaks_66 rfl (lv_at hl 1 rfl) ?_
              refine lv_iconst (v := (4 : Int32)) hx hb dX11_breaks_67 (by decide) ?_
              refine tw_Vi (q := (RX11, TX11, 31)) (As := [.int (4 : Int32)]) (rest := []) ⟨hx, hb, hml, hown, hts⟩ (c_X11_firstOf l D cy κ u10 p0 k0 (4 : Int32) (by omega)) (cwV 1 hts gX11_breaks_X11_firstOf rfl rfl rfl (by decide +kernel) ⟨Nat.le_of_ble_eq_true rfl, Nat.le_of_ble_eq_true rfl⟩) hK hT hS k0 (by decide) rfl rfl hl.1 rfl (Nat.le_of_ble_eq_true rfl) dX11_breaks_68 ⟨Nat.zero_le _, Nat.zero_le _⟩ (fun x22 u23 H locs hpu23 hT hS => ?_)
              obtain ⟨qu23, ru23⟩ := hpu23
              have hok := ru23.1
              have hs7 := ru23.2.1
              have hs0 := ru23.2.2
              have hbr := TW.br hT k0
              have zz24 : (u23.1 (6)).toInt = (u10.1 (6)).toInt := congrArg Int32.toInt (qu23 (6) (by omega))
              have zz25 : (u23.1 (8)).toInt = (u10.1 (8)).toInt := congrArg Int32.toInt (qu23 (8) (by omega))
              refine lv_istore (lv' := [(6, .int x22), (5, .int x11), (0, .ref p0), (1, .int p1), (2, .int p2), (3, .int p3), (4, .int p4)]) hx hb dX11_breaks_71 hl (by decide) rfl (fun ls hl => ?_)
              refine lv_iload hx hb dX11_breaks_73 (lv_at hl 0 rfl) ?_
              refine lv_iconst (v := (-1 : Int32)) hx hb dX11_breaks_75 (by decide) ?_
              have J84 : ∀ (H : Heap) (locs : List Loc) (ls : Array Slot) (x26 : Int32), (TW D cy κ u23 H) → (va_S (AA κ) s.heap H locs) → (lv_has ls 7 [(6, .int x22), (5, .int x11), (0, .ref p0), (1, .int p1), (2, .int p2), (3, .int p3), (4, .int p4)]) → (0 ≤ x26.toInt ∧ x26.toInt ≤ 1) → (x26.toInt = 0 ∨ x22.toInt ≠ -1) → W p l e rmX11_breaks s m args below meth c H locs 0 0 Q (F0 m 84 ls [.int x26]) := by
                intro H locs ls x26 hT hS hl fJ84_0 fJ84_1
                have hk9 := TW.k9 hT k0
                refine lv_istore (lv' := [(5, .int x26), (6, .int x22), (0, .ref p0), (1, .int p1), (2, .int p2), (3, .int p3), (4, .int p4)]) hx hb dX11_breaks_84 hl (by decide) rfl (fun ls hl => ?_)
                refine lv_iload hx hb dX11_breaks_86 (lv_at hl 0 rfl) ?_
                refine tb_if_ne (tgt := 94) hx hb dX11_breaks_88 (by decide) (fun c27 => ?_) (fun c27 => ?_)
                · skip
                  have hf1 : okF u10 (4 : Int32).toInt x22.toInt := hok.resolve_left (by omega)
                  have hbq : ∀ j, j < 60 → 0 ≤ (u10.1 (200 + j)).toInt ∧ (u10.1 (200 + j)).toInt ≤ 2 := fun j hj => by rw [← qu23 (200 + j) (by omega)]; exact hbr j hj
                  obtain ⟨kk, hkk⟩ : ∃ k : Nat, (12 * (4 : Int32).toInt + x22.toInt / 10).toNat = k := ⟨_, rfl⟩
                  have hb1 := hf1.1
                  have hb2 := hf1.2.1
                  have hf2 := hf1.lt hkk (hbq kk (by omega))
                  have hms := msr_pos (g := u10) (k := kk) (by omega) hf2.1 12 (by omega)
                  refine lv_aload_n hx hb dX11_breaks_94 rfl (lv_at hl 2 rfl) ?_
                  refine gf_11_27 hx hb hts hin11 hown hK hT k0 hfl59 dX11_breaks_95 (fun a28 ka28 fva28 => ?_)
                  refine lv_aload_n hx hb dX11_breaks_98 rfl (lv_at hl 2 rfl) ?_
                  refine gf_11_30 hx hb hts hin11 hown hK hT k0 hfl194 dX11_breaks_99 (fun x29 kx29 fvx29 => ?_)
                  have gx29 := congrArg Int32.toInt kx29.1
                  have zz30 : (u23.1 (6)).toInt = (u10.1 (6)).toInt := congrArg Int32.toInt (qu23 (6) (by omega))
                  refine lv_iload hx hb dX11_breaks_102 (lv_at hl 1 rfl) ?_
                  refine tw_ias (K := 1030) (n := 30) (P := fun _ => True) hx hb hK hT hS ka28 (by decide) rfl rfl (by omega) rfl trivial dX11_breaks_104 (fun H locs hT hS hq => ?_)
                  refine lv_aload_n hx hb dX11_breaks_105 rfl (lv_at hl 2 rfl) ?_
                  refine gf_11_28 hx hb hts hin11 hown hK hT k0 hfl62 dX11_breaks_106 (fun a31 ka31 fva31 => ?_)
                  refine lv_aload_n hx hb dX11_breaks_109 rfl (lv_at hl 2 rfl) ?_
                  refine gf_11_30 hx hb hts hin11 hown hK hT k0 hfl194 dX11_breaks_110 (fun x32 kx32 fvx32 => ?_)
                  have gx32 := congrArg Int32.toInt kx32.1
                  have zz33 : (u23.1 (6)).toInt = (u10.1 (6)).toInt := congrArg Int32.toInt (qu23 (6) (by omega))
                  refine lv_aload_n hx hb dX11_breaks_113 rfl (lv_at hl 2 rfl) ?_
                  refine lv_iconst (v := (0 : Int32)) hx hb dX11_breaks_114 (by decide) ?_
                  refine tw_Vl (q := (RX11, TX11, 31)) (As := [.int (0 : Int32)]) (rest := [.int x32, .ref a31]) ⟨hx, hb, hml, hown, hts⟩ (c_X11_factorOf l D cy κ u23 p0 k0 (0 : Int32) (by omega) (by omega)) (cwV 1 hts gX11_breaks_X11_factorOf rfl rfl rfl (by decide +kernel) ⟨Nat.le_of_ble_eq_true rfl, Nat.le_of_ble_eq_true rfl⟩) hK hT hS k0 (by decide) rfl rfl hl.1 rfl (Nat.le_of_ble_eq_true rfl) dX11_breaks_115 ⟨Nat.zero_le _, Nat.zero_le _⟩ (fun y34 u35 H locs hpu35 hT hS => ?_)
                  obtain ⟨huu35, qu35⟩ := hpu35
                  rw [huu35] at hT
                  refine tw_las (K := 2030) (n := 30) (P := fun _ => True) hx hb hK hT hS ka31 (by decide) rfl rfl (by omega) rfl trivial dX11_breaks_118 (fun H locs hT hS hq => ?_)
                  refine lv_aload_n hx hb dX11_breaks_119 rfl (lv_at hl 2 rfl) ?_
                  refine gf_11_29 hx hb hts hin11 hown hK hT k0 hfl66 dX11_breaks_120 (fun a36 ka36 fva36 => ?_)
                  refine lv_aload_n hx hb dX11_breaks_123 rfl (lv_at hl 2 rfl) ?_
                  refine gf_11_30 hx hb hts hin11 hown hK hT k0 hfl194 dX11_breaks_124 (fun x37 kx37 fvx37 => ?_)
                  have gx37 := congrArg Int32.toInt kx37.1
                  have zz38 : (u23.1 (6)).toInt = (u10.1 (6)).toInt := congrArg Int32.toInt (qu23 (6) (by omega))
                  refine lv_aload_n hx hb dX11_breaks_127 rfl (lv_at hl 2 rfl) ?_
                  refine lv_iconst (v := (1 : Int32)) hx hb dX11_breaks_128 (by decide) ?_
                  refine tw_Vl (q := (RX11, TX11, 31)) (As := [.int (1 : Int32)]) (rest := [.int x37, .ref a36]) ⟨hx, hb, hml, hown, hts⟩ (c_X11_factorOf l D cy κ u23 p0 k0 (1 : Int32) (by omega) (by omega)) (cwV 1 hts gX11_breaks_X11_factorOf rfl rfl rfl (by decide +kernel) ⟨Nat.le_of_ble_eq_true rfl, Nat.le_of_ble_eq_true rfl⟩) hK hT hS k0 (by decide) rfl rfl hl.1 rfl (Nat.le_of_ble_eq_true rfl) dX11_breaks_129 ⟨Nat.zero_le _, Nat.zero_le _⟩ (fun y39 u40 H locs hpu40 hT hS => ?_)
                  obtain ⟨huu40, qu40⟩ := hpu40
                  rw [huu40] at hT
                  obtain ⟨x41, ex41⟩ : ∃ z : Int32, z = x37 + 1 := ⟨_, rfl⟩
                  have tx41 : x41.toInt = x37.toInt + 1 := by rw [ex41, ti_add (by have := i32b x37; rw [show (1 : Int32).toInt = 1 from rfl]; omega)]; rfl
                  refine ag_54 (z := x41) hx hb hK hT hS ka36 (by omega) dX11_breaks_132 (by omega) (fun H locs hT hS => ?_)
                  obtain ⟨u42, eu42⟩ : ∃ u : Gh, u = cG u23 (8) x41 := ⟨_, rfl⟩
                  rw [← eu42] at hT
                  have au42 : (u42.1 (8)).toInt = x41.toInt := by rw [eu42, cG_at]
                  have bu42 : ∀ j, j ≠ 8 → u42.1 j = u23.1 j := fun j hj => by rw [eu42]; exact if_neg hj
                  have du42 : u42.2 = u23.2 := by rw [eu42]; rfl
                  refine lv_aload_n hx hb dX11_breaks_133 rfl (lv_at hl 2 rfl) ?_
                  refine lv_dup hx hb dX11_breaks_134 rfl ?_
                  refine gf_11_30 hx hb hts hin11 hown hK hT k0 hfl194 dX11_breaks_135 (fun x43 kx43 fvx43 => ?_)
                  have gx43 := congrArg Int32.toInt kx43.1
                  have zz44 : (u42.1 (6)).toInt = (u23.1 (6)).toInt := congrArg Int32.toInt (bu42 (6) (by omega))
                  have zz45 : (u23.1 (6)).toInt = (u10.1 (6)).toInt := congrArg Int32.toInt (qu23 (6) (by omega))
                  refine lv_iconst (v := (1 : Int32)) hx hb dX11_breaks_138 (by decide) ?_
                  refine lv_iadd hx hb dX11_breaks_139 ?_
                  refine lv_topi (fun x46 ex46 => ?_)
                  have tx46 : x46.toInt = x43.toInt + (1 : Int32).toInt := by rw [ex46]; exact ti_add (by have := i32b x43; have := i32b (1 : Int32); omega)
                  refine pc_11_30 hx hb hts hin11 hown hK hT hS k0 hfl194 dX11_breaks_140 (by omega) (fun H locs hT hS => ?_)
                  obtain ⟨u47, eu47⟩ : ∃ u : Gh, u = cG u42 (6) x46 := ⟨_, rfl⟩
                  rw [← eu47] at hT
                  have au47 : (u47.1 (6)).toInt = x46.toInt := by rw [eu47, cG_at]
                  have bu47 : ∀ j, j ≠ 6 → u47.1 j = u42.1 j := fun j hj => by rw [eu47]; exact if_neg hj
                  have du47 : u47.2 = u42.2 := by rw [eu47]; rfl
                  refine lv_aload_n hx hb dX11_breaks_143 rfl (lv_at hl 2 rfl) ?_
                  refine gf_11_17 hx hb hts hin11 hown hK hT k0 hfl47 dX11_breaks_144 (fun a48 ka48 fva48 => ?_)
                  refine lv_iconst (v := (4 : Int32)) hx hb dX11_breaks_147 (by decide) ?_
                  refine lv_iload hx hb dX11_breaks_148 (lv_at hl 1 rfl) ?_
                  refine lv_bipush (v := (10 : Int32)) hx hb dX11_breaks_150 (by decide) ?_
                  refine lv_idiv hx hb dX11_breaks_152 (by decide) ?_
                  refine lv_topi (fun x49 ex49 => ?_)
                  have tx49 : x49.toInt = x22.toInt / 10 := by rw [ex49]; exact ti_div hc10 (by omega) (by decide)
                  refine tw_Si (As := [.int (4 : Int32), .int x49]) (rest := [.ref a48]) ⟨hx, hb, hml, hown, hts⟩ (c_X11_spot l D cy κ u47 (4 : Int32) (by omega) x49 (by omega)) (va_cwS 2 hts gX11_breaks_X11_spot rfl rfl rfl (by decide +kernel) ⟨Nat.le_of_ble_eq_true rfl, Nat.le_of_ble_eq_true rfl⟩) hK hT hS rfl hl.1 rfl (Nat.le_of_ble_eq_true rfl) dX11_breaks_153 ⟨Nat.zero_le _, Nat.zero_le _⟩ (fun x50 u51 H locs hpu51 hT hS => ?_)
                  obtain ⟨huu51, qu51⟩ := hpu51
                  rw [huu51] at hT
                  refine lv_iload hx hb dX11_breaks_156 (lv_at hl 1 rfl) ?_
                  refine lv_bipush (v := (10 : Int32)) hx hb dX11_breaks_158 (by decide) ?_
                  refine lv_irem hx hb dX11_breaks_160 (by decide) ?_
                  refine lv_topi (fun x52 ex52 => ?_)
                  rw [irem_eq] at ex52
                  have tx52 : x52.toInt = x22.toInt % 10 := by rw [ex52]; exact ti_rem hc10 (by omega) (by decide)
                  refine lv_iconst (v := (2 : Int32)) hx hb dX11_breaks_161 (by decide) ?_
                  have J170 : ∀ (H : Heap) (locs : List Loc) (ls : Array Slot) (x53 : Int32), (TW D cy κ u47 H) → (va_S (AA κ) s.heap H locs) → (lv_has ls 7 [(5, .int x26), (6, .int x22), (0, .ref p0), (1, .int p1), (2, .int p2), (3, .int p3), (4, .int p4)]) → (1 ≤ x53.toInt ∧ x53.toInt ≤ 2) → (x53.toInt = 2 ∧ x22.toInt % 10 < 2 ∨ x53.toInt = 1 ∧ 2 ≤ x22.toInt % 10) → W p l e rmX11_breaks s m args below meth c H locs 0 0 Q (F0 m 170 ls [.int x53, .int x50, .ref a48]) := by
                    intro H locs ls x53 hT hS hl fJ170_0 fJ170_1
                    have hk9 := TW.k9 hT k0
                    refine ag_52 hx hb hK hT hS ka48 (by omega) dX11_breaks_170 (by omega) (fun H locs hT hS => ?_)
                    obtain ⟨u54, eu54⟩ : ∃ u : Gh, u = cG u47 (200 + x50.toInt.toNat) x53 := ⟨_, rfl⟩
                    rw [← eu54] at hT
                    have au54 : (u54.1 (200 + x50.toInt.toNat)).toInt = x53.toInt := by rw [eu54, cG_at]
                    have bu54 : ∀ j, j ≠ 200 + x50.toInt.toNat → u54.1 j = u47.1 j := fun j hj => by rw [eu54]; exact if_neg hj
                    have du54 : u54.2 = u47.2 := by rw [eu54]; rfl
                    refine lv_goto (tgt := 37) hx hb dX11_breaks_171 (by decide) ?_
                    have hall : ∀ j, 200 ≤ j → j ≠ 200 + kk → u54.1 j = u10.1 j := fun j h1 h2 => (((bu54 j (by omega)).trans (bu47 j (by omega))).trans (bu42 j (by omega))).trans (qu23 j (by omega))
                    have hkx : x50.toInt.toNat = kk := by omega
                    have hau : (u54.1 (200 + kk)).toInt = (u54.1 (200 + x50.toInt.toNat)).toInt := by rw [hkx]
                    have hmd := msr_dec hall (by omega) (by omega) 12 (by omega)
                    have zz55 : (u54.1 (6)).toInt = (u47.1 (6)).toInt := congrArg Int32.toInt (bu54 (6) (by omega))
                    exact ih37 ((2 * msrN u54 12 + x26.toInt.toNat)) (by have := i32b x26; have := i32b x22; have := i32b p1; have := i32b p2; have := i32b p3; have := i32b p4; omega) H locs ls u54 x26 rfl (cntG.up bu54 du54 (by omega) (cntG.up bu47 du47 (by omega) (cntG.up bu42 du42 (by omega) (cntG.tr_fG qu23 qu10)))) hT hS (lv_sub hl [0, 2, 3, 4, 5, 6] rfl) (by omega) (by omega)
                  refine tb_icmp_ge (tgt := 169) hx hb dX11_breaks_162 (by decide) (fun c56 => ?_) (fun c56 => ?_)
                  · skip
                    refine lv_iconst (v := (1 : Int32)) hx hb dX11_breaks_169 (by decide) ?_
                    exact J170 H locs ls (1 : Int32) hT hS (lv_sub hl [0, 1, 2, 3, 4, 5, 6] rfl) (by omega) (by omega)
                  · skip
                    refine lv_iconst (v := (2 : Int32)) hx hb dX11_breaks_165 (by decide) ?_
                    refine lv_goto (tgt := 170) hx hb dX11_breaks_166 (by decide) ?_
                    exact J170 H locs ls (2 : Int32) hT hS (lv_sub hl [0, 1, 2, 3, 4, 5, 6] rfl) (by omega) (by omega)
                · skip
                  refine lv_goto (tgt := 37) hx hb dX11_breaks_91 (by decide) ?_
                  have zz57 : (u23.1 (6)).toInt = (u10.1 (6)).toInt := congrArg Int32.toInt (qu23 (6) (by omega))
                  have hsm := msr_same (u := u23) (g := u10) (fun j h => qu23 j (by omega))
                  exact ih37 ((2 * msrN u23 12 + x26.toInt.toNat)) (by have := i32b x26; have := i32b x22; have := i32b p1; have := i32b p2; have := i32b p3; have := i32b p4; omega) H locs ls u23 x26 rfl (cntG.tr_fG qu23 qu10) hT hS (lv_sub hl [0, 2, 3, 4, 5, 6] rfl) (by omega) (by rw [msr_same (fun j h => qu23 j (by omega))]; omega)
              refine tb_icmp_eq (tgt := 83) hx hb dX11_breaks_76 (by decide) (fun c58 => ?_) (fun c58 => ?_)
              · skip
                refine lv_iconst (v := (0 : Int32)) hx hb dX11_breaks_83 (by decide) ?_
                exact J84 H locs ls (0 : Int32) hT hS (lv_sub hl [0, 1, 2, 3, 4, 5, 6] rfl) (by omega) (by omega)
              · skip
                refine lv_iconst (v := (1 : Int32)) hx hb dX11_breaks_79 (by decide) ?_
                refine lv_goto (tgt := 84) hx hb dX11_breaks_80 (by decide) ?_
                exact J84 H locs ls (1 : Int32) hT hS (lv_sub hl [0, 1, 2, 3, 4, 5, 6] rfl) (by omega) (by omega)
        have hml9 := msr_le (TW.br hT k0) 12 (by omega)
        exact L37 _ H locs ls u9 (1 : Int32) rfl (cntG.up bu9 du9 (by omega) (cntG.tr_midG qu8 (cntG.rf G))) hT hS (lv_sub hl [0, 1, 2, 3, 4, 5] rfl) (by omega) (by omega)
      · skip
        refine lv_bipush (v := (-2 : Int32)) hx hb dX11_breaks_20 (by decide) ?_
        exact hret H locs ls 22 (-2 : Int32) G dX11_breaks_22 ⟨(cntG.rf G), trivial⟩ hT hS
    · skip
      refine lv_iconst (v := (-1 : Int32)) hx hb dX11_breaks_8 (by decide) ?_
      exact hret H locs ls 9 (-1 : Int32) G dX11_breaks_9 ⟨(cntG.rf G), trivial⟩ hT hS
  exact main s.heap [] hT va_S.rf
