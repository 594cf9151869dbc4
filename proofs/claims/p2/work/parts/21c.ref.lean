abbrev rmX11_warm : Room := { frames := 4, cells := 0, slots := 0, locals := 131 }
set_option maxHeartbeats 4000000 in
set_option maxRecDepth 100000 in
theorem c_X11_warm (l : Launch) (D : va_G) (cy : Nat → ClassId) (κ : Nat → Nat) (G : Gh) (p0 : Nat) (k0 : κ p0 = 12) (p1 : Int32) (p2 : Int32) (p3 : Int32) (p4 : Int32) : Met l yX11_warm wsX11_warm rmX11_warm (va_Pc [.ref p0, .int p1, .int p2, .int p3, .int p4] (fun U => WW D cy κ G U)) (va_Ql (fun (r : Int64) (u : Gh) => u = G ∧ (True)) (fun u t => WW D cy κ u t) (AA κ)) 0 0 (AA κ) := by
  refine Met.twl (cc := cX11_warm) (maxL := 19) (by decide) rfl (Nat.le_of_ble_eq_true rfl) ?_
  intro p e s m args below meth c Q hx hb hml hown hts hK hT hret ls hl
  have hl : lv_has ls 19 [(0, .ref p0), (1, .int p1), (2, .int p2), (3, .int p3), (4, .int p4)] := hl
  have hkl112 := hts (.constantLong RX11 112 (-9223372036854775808)) (by decide +kernel)
  have hlk112 : (-9223372036854775808 : Int64).toInt = -9223372036854775808 := rfl
  have hcm100 : (-100 : Int32).toInt = -100 := rfl
  have hc100 : (100 : Int32).toInt = 100 := rfl
  have hc0 : (0 : Int32).toInt = 0 := rfl
  have hc2 : (2 : Int32).toInt = 2 := rfl
  have hc1 : (1 : Int32).toInt = 1 := rfl
  have hlc0 : (0 : Int64).toInt = 0 := rfl
  have hfl35 := hts (.fieldLink RX11 35 "PlyPlatesModel" "many" "[I") (by decide +kernel)
  have hin11 : ∀ w ∈ u_ws RX11 TX11 31, w ∈ wsX11_warm := by decide +kernel
  have hfl44 := hts (.fieldLink RX11 44 "PlyPlatesModel" "thick" "[I") (by decide +kernel)
  have hfl29 := hts (.fieldLink RX11 29 "PlyPlatesModel" "along" "[I") (by decide +kernel)
  have hfl38 := hts (.fieldLink RX11 38 "PlyPlatesModel" "stuff" "[I") (by decide +kernel)
  have hfl32 := hts (.fieldLink RX11 32 "PlyPlatesModel" "across" "[I") (by decide +kernel)
  have hfl41 := hts (.fieldLink RX11 41 "PlyPlatesModel" "way" "[I") (by decide +kernel)
  have hkl156 := hts (.constantLong RX11 156 (2)) (by decide +kernel)
  have hlk156 : (2 : Int64).toInt = 2 := rfl
  have hkl150 := hts (.constantLong RX11 150 (4)) (by decide +kernel)
  have hlk150 : (4 : Int64).toInt = 4 := rfl
  have main : ∀ (H : Heap) (locs : List Loc), TW D cy κ G H → va_S (AA κ) s.heap H locs → W p l e rmX11_warm s m args below meth c H locs 0 0 Q (F0 m 0 ls []) := by
    intro H locs hT hS
    refine lv_aload_n hx hb dX11_warm_0 rfl (lv_at hl 0 rfl) ?_
    refine lv_iload_n hx hb dX11_warm_1 rfl (lv_at hl 1 rfl) ?_
    refine tw_Vi (q := (RX11, TX11, 31)) (As := [.int p1]) (rest := []) ⟨hx, hb, hml, hown, hts⟩ (c_X11_isPlate l D cy κ G p0 k0 p1) (cwV 1 hts gX11_warm_X11_isPlate rfl rfl rfl (by decide +kernel) ⟨Nat.le_of_ble_eq_true rfl, Nat.le_of_ble_eq_true rfl⟩) hK hT hS k0 (by decide) rfl rfl hl.1 rfl (Nat.le_of_ble_eq_true rfl) dX11_warm_2 ⟨Nat.zero_le _, Nat.zero_le _⟩ (fun x1 u2 H locs hpu2 hT hS => ?_)
    obtain ⟨huu2, qu2⟩ := hpu2
    rw [huu2] at hT
    refine tb_if_eq (tgt := 38) hx hb dX11_warm_5 (by decide) (fun c3 => ?_) (fun c3 => ?_)
    · skip
      refine lv_ldc2 hx hb hown hkl112 dX11_warm_38 ?_
      exact hret H locs ls 41 (-9223372036854775808 : Int64) G dX11_warm_41 ⟨rfl, trivial⟩ hT hS
    · skip
      have wp1_c3 : 0 ≤ p1.toInt ∧ p1.toInt ≤ 3 := by omega
      clear qu2
      refine lv_iload_n hx hb dX11_warm_8 rfl (lv_at hl 2 rfl) ?_
      refine lv_bipush (v := (-100 : Int32)) hx hb dX11_warm_9 (by decide) ?_
      refine lv_bipush (v := (100 : Int32)) hx hb dX11_warm_11 (by decide) ?_
      refine tw_Si (As := [.int p2, .int (-100 : Int32), .int (100 : Int32)]) (rest := []) ⟨hx, hb, hml, hown, hts⟩ (c_X11_isIn l D cy κ G p2 (-100 : Int32) (100 : Int32)) (va_cwS 3 hts gX11_warm_X11_isIn rfl rfl rfl (by decide +kernel) ⟨Nat.le_of_ble_eq_true rfl, Nat.le_of_ble_eq_true rfl⟩) hK hT hS rfl hl.1 rfl (Nat.le_of_ble_eq_true rfl) dX11_warm_13 ⟨Nat.zero_le _, Nat.zero_le _⟩ (fun x4 u5 H locs hpu5 hT hS => ?_)
      obtain ⟨huu5, qu5⟩ := hpu5
      rw [huu5] at hT
      refine tb_if_eq (tgt := 38) hx hb dX11_warm_16 (by decide) (fun c6 => ?_) (fun c6 => ?_)
      · skip
        refine lv_ldc2 hx hb hown hkl112 dX11_warm_38 ?_
        exact hret H locs ls 41 (-9223372036854775808 : Int64) G dX11_warm_41 ⟨rfl, trivial⟩ hT hS
      · skip
        have wp2_c6 : -100 ≤ p2.toInt ∧ p2.toInt ≤ 100 := by omega
        clear qu5
        refine lv_iload_n hx hb dX11_warm_19 rfl (lv_at hl 3 rfl) ?_
        refine lv_iconst (v := (0 : Int32)) hx hb dX11_warm_20 (by decide) ?_
        refine lv_iconst (v := (2 : Int32)) hx hb dX11_warm_21 (by decide) ?_
        refine tw_Si (As := [.int p3, .int (0 : Int32), .int (2 : Int32)]) (rest := []) ⟨hx, hb, hml, hown, hts⟩ (c_X11_isIn l D cy κ G p3 (0 : Int32) (2 : Int32)) (va_cwS 3 hts gX11_warm_X11_isIn rfl rfl rfl (by decide +kernel) ⟨Nat.le_of_ble_eq_true rfl, Nat.le_of_ble_eq_true rfl⟩) hK hT hS rfl hl.1 rfl (Nat.le_of_ble_eq_true rfl) dX11_warm_22 ⟨Nat.zero_le _, Nat.zero_le _⟩ (fun x7 u8 H locs hpu8 hT hS => ?_)
        obtain ⟨huu8, qu8⟩ := hpu8
        rw [huu8] at hT
        refine tb_if_eq (tgt := 38) hx hb dX11_warm_25 (by decide) (fun c9 => ?_) (fun c9 => ?_)
        · skip
          refine lv_ldc2 hx hb hown hkl112 dX11_warm_38 ?_
          exact hret H locs ls 41 (-9223372036854775808 : Int64) G dX11_warm_41 ⟨rfl, trivial⟩ hT hS
        · skip
          have wp3_c9 : 0 ≤ p3.toInt ∧ p3.toInt ≤ 2 := by omega
          clear qu8
          refine lv_iload hx hb dX11_warm_28 (lv_at hl 4 rfl) ?_
          refine lv_iconst (v := (0 : Int32)) hx hb dX11_warm_30 (by decide) ?_
          refine lv_iconst (v := (1 : Int32)) hx hb dX11_warm_31 (by decide) ?_
          refine tw_Si (As := [.int p4, .int (0 : Int32), .int (1 : Int32)]) (rest := []) ⟨hx, hb, hml, hown, hts⟩ (c_X11_isIn l D cy κ G p4 (0 : Int32) (1 : Int32)) (va_cwS 3 hts gX11_warm_X11_isIn rfl rfl rfl (by decide +kernel) ⟨Nat.le_of_ble_eq_true rfl, Nat.le_of_ble_eq_true rfl⟩) hK hT hS rfl hl.1 rfl (Nat.le_of_ble_eq_true rfl) dX11_warm_32 ⟨Nat.zero_le _, Nat.zero_le _⟩ (fun x10 u11 H locs hpu11 hT hS => ?_)
          obtain ⟨huu11, qu11⟩ := hpu11
          rw [huu11] at hT
          refine tb_if_ne (tgt := 42) hx hb dX11_warm_35 (by decide) (fun c12 => ?_) (fun c12 => ?_)
          · skip
            have wp4_c12 : 0 ≤ p4.toInt ∧ p4.toInt ≤ 1 := by omega
            clear qu11
            refine lv_lconst (v := 0) hx hb dX11_warm_42 (by decide) ?_
            refine lv_lstore (lv' := [(5, .long (0 : Int64)), (0, .ref p0), (1, .int p1), (2, .int p2), (3, .int p3), (4, .int p4)]) hx hb dX11_warm_43 hl (by decide) rfl (fun ls hl => ?_)
            refine lv_lconst (v := 0) hx hb dX11_warm_45 (by decide) ?_
            refine lv_lstore (lv' := [(7, .long (0 : Int64)), (5, .long (0 : Int64)), (0, .ref p0), (1, .int p1), (2, .int p2), (3, .int p3), (4, .int p4)]) hx hb dX11_warm_46 hl (by decide) rfl (fun ls hl => ?_)
            refine lv_lconst (v := 0) hx hb dX11_warm_48 (by decide) ?_
            refine lv_lstore (lv' := [(9, .long (0 : Int64)), (7, .long (0 : Int64)), (5, .long (0 : Int64)), (0, .ref p0), (1, .int p1), (2, .int p2), (3, .int p3), (4, .int p4)]) hx hb dX11_warm_49 hl (by decide) rfl (fun ls hl => ?_)
            refine lv_iconst (v := (0 : Int32)) hx hb dX11_warm_51 (by decide) ?_
            refine lv_istore (lv' := [(11, .int (0 : Int32)), (9, .long (0 : Int64)), (7, .long (0 : Int64)), (5, .long (0 : Int64)), (0, .ref p0), (1, .int p1), (2, .int p2), (3, .int p3), (4, .int p4)]) hx hb dX11_warm_52 hl (by decide) rfl (fun ls hl => ?_)
            have L54 : ∀ (nn : Nat) (H : Heap) (locs : List Loc) (ls : Array Slot) (x13 : Int32) (y14 : Int64) (y15 : Int64) (y16 : Int64), (nn = (2147483647 - x13.toInt).toNat) → (TW D cy κ G H) → (va_S (AA κ) s.heap H locs) → (lv_has ls 19 [(11, .int x13), (9, .long y14), (7, .long y15), (5, .long y16), (0, .ref p0), (1, .int p1), (2, .int p2), (3, .int p3), (4, .int p4)]) → (0 ≤ x13.toInt ∧ x13.toInt ≤ 12) → W p l e rmX11_warm s m args below meth c H locs 0 0 Q (F0 m 54 ls []) := by
              intro nn
              induction nn using Nat.strongRecOn with
              | _ nn ih54 =>
                intro H locs ls x13 y14 y15 y16 hnn hT hS hl fL54_0
                refine lv_iload hx hb dX11_warm_54 (lv_at hl 0 rfl) ?_
                refine lv_aload_n hx hb dX11_warm_56 rfl (lv_at hl 4 rfl) ?_
                refine gf_11_13 hx hb hts hin11 hown hK hT k0 hfl35 dX11_warm_57 (fun a17 ka17 fva17 => ?_)
                refine lv_iload_n hx hb dX11_warm_60 rfl (lv_at hl 5 rfl) ?_
                refine tw_ia (K := 50) (n := 5) (P := fun x => x = G.1 (100 + p1.toInt.toNat) ∧ (0 ≤ x.toInt ∧ x.toInt ≤ 12) ∧ ((G.1 3).toInt = 0 → x.toInt = 0)) hx hb hK hT ka17 (by decide) rfl rfl (by omega) rfl dX11_warm_61 (fun x18 kx18 fvx18 => ?_)
                have kx18 : x18 = G.1 (100 + p1.toInt.toNat) ∧ (0 ≤ x18.toInt ∧ x18.toInt ≤ 12) ∧ ((G.1 3).toInt = 0 → x18.toInt = 0) := kx18
                have gx18 := congrArg Int32.toInt kx18.1
                have rx18 := kx18.2
                refine tb_icmp_ge (tgt := 344) hx hb dX11_warm_62 (by decide) (fun c19 => ?_) (fun c19 => ?_)
                · skip
                  refine lv_aload_n hx hb dX11_warm_344 rfl (lv_at hl 4 rfl) ?_
                  refine lv_iload_n hx hb dX11_warm_345 rfl (lv_at hl 5 rfl) ?_
                  refine lv_lload hx hb dX11_warm_346 (lv_at hl 3 rfl) ?_
                  refine lv_lload hx hb dX11_warm_348 (lv_at hl 2 rfl) ?_
                  refine lv_lload hx hb dX11_warm_350 (lv_at hl 1 rfl) ?_
                  refine tw_Vv (q := (RX11, TX11, 31)) (As := [.int p1, .long y16, .long y15, .long y14]) (rest := []) ⟨hx, hb, hml, hown, hts⟩ (c_X11_solve l D cy κ G p0 k0 p1 (by omega) y16 y15 y14) (cwV 4 hts gX11_warm_X11_solve rfl rfl rfl (by decide +kernel) ⟨Nat.le_of_ble_eq_true rfl, Nat.le_of_ble_eq_true rfl⟩) hK hT hS k0 (by decide) rfl rfl hl.1 rfl (Nat.le_of_ble_eq_true rfl) dX11_warm_352 ⟨Nat.zero_le _, Nat.zero_le _⟩ (fun u21 H locs hpu21 hT hS => ?_)
                  obtain ⟨huu21, qu21⟩ := hpu21
                  rw [huu21] at hT
                  refine lv_aload_n hx hb dX11_warm_355 rfl (lv_at hl 4 rfl) ?_
                  refine lv_iload_n hx hb dX11_warm_356 rfl (lv_at hl 7 rfl) ?_
                  refine lv_iload hx hb dX11_warm_357 (lv_at hl 8 rfl) ?_
                  refine tw_Vl (q := (RX11, TX11, 31)) (As := [.int p3, .int p4]) (rest := []) ⟨hx, hb, hml, hown, hts⟩ (c_X11_stretchOf l D cy κ G p0 k0 p3 p4) (cwV 2 hts gX11_warm_X11_stretchOf rfl rfl rfl (by decide +kernel) ⟨Nat.le_of_ble_eq_true rfl, Nat.le_of_ble_eq_true rfl⟩) hK hT hS k0 (by decide) rfl rfl hl.1 rfl (Nat.le_of_ble_eq_true rfl) dX11_warm_359 ⟨Nat.zero_le _, Nat.zero_le _⟩ (fun y22 u23 H locs hpu23 hT hS => ?_)
                  obtain ⟨huu23, qu23⟩ := hpu23
                  rw [huu23] at hT
                  exact hret H locs ls 362 y22 G dX11_warm_362 ⟨rfl, trivial⟩ hT hS
                · skip
                  refine lv_iload_n hx hb dX11_warm_65 rfl (lv_at hl 5 rfl) ?_
                  refine lv_iload hx hb dX11_warm_66 (lv_at hl 0 rfl) ?_
                  refine tw_Si (As := [.int p1, .int x13]) (rest := []) ⟨hx, hb, hml, hown, hts⟩ (c_X11_spot l D cy κ G p1 (by omega) x13 (by omega)) (va_cwS 2 hts gX11_warm_X11_spot rfl rfl rfl (by decide +kernel) ⟨Nat.le_of_ble_eq_true rfl, Nat.le_of_ble_eq_true rfl⟩) hK hT hS rfl hl.1 rfl (Nat.le_of_ble_eq_true rfl) dX11_warm_68 ⟨Nat.zero_le _, Nat.zero_le _⟩ (fun x24 u25 H locs hpu25 hT hS => ?_)
                  obtain ⟨huu25, qu25⟩ := hpu25
                  rw [huu25] at hT
                  refine lv_istore (lv' := [(12, .int x24), (11, .int x13), (9, .long y14), (7, .long y15), (5, .long y16), (0, .ref p0), (1, .int p1), (2, .int p2), (3, .int p3), (4, .int p4)]) hx hb dX11_warm_71 hl (by decide) rfl (fun ls hl => ?_)
                  refine lv_iload_n hx hb dX11_warm_73 rfl (lv_at hl 7 rfl) ?_
                  refine lv_i2l hx hb dX11_warm_74 rfl ?_
                  refine lv_topl (fun y26 ey26 => ?_)
                  have ty26 : y26.toInt = p2.toInt := by rw [ey26]; exact Int32.toInt_toInt64 p2
                  refine lv_aload_n hx hb dX11_warm_75 rfl (lv_at hl 5 rfl) ?_
                  refine gf_11_16 hx hb hts hin11 hown hK hT k0 hfl44 dX11_warm_76 (fun a27 ka27 fva27 => ?_)
                  refine lv_iload hx hb dX11_warm_79 (lv_at hl 0 rfl) ?_
                  refine tw_ia (K := 1060) (n := 60) (P := fun _ => True) hx hb hK hT ka27 (by decide) rfl rfl (by omega) rfl dX11_warm_81 (fun x28 _ fvx28 => ?_)
                  refine lv_i2l hx hb dX11_warm_82 rfl ?_
                  refine lv_topl (fun y29 ey29 => ?_)
                  have ty29 : y29.toInt = x28.toInt := by rw [ey29]; exact Int32.toInt_toInt64 x28
                  refine lv_lmul hx hb dX11_warm_83 ?_
                  refine lv_topl (fun y30 ey30 => ?_)
                  refine lv_lstore (lv' := [(13, .long y30), (12, .int x24), (11, .int x13), (9, .long y14), (7, .long y15), (5, .long y16), (0, .ref p0), (1, .int p1), (2, .int p2), (3, .int p3), (4, .int p4)]) hx hb dX11_warm_84 hl (by decide) rfl (fun ls hl => ?_)
                  refine lv_lload hx hb dX11_warm_86 (lv_at hl 0 rfl) ?_
                  refine lv_aload_n hx hb dX11_warm_88 rfl (lv_at hl 6 rfl) ?_
                  refine lv_iload hx hb dX11_warm_89 (lv_at hl 1 rfl) ?_
                  refine lv_iconst (v := (0 : Int32)) hx hb dX11_warm_91 (by decide) ?_
                  refine tw_Vi (q := (RX11, TX11, 31)) (As := [.int x24, .int (0 : Int32)]) (rest := [.long y30]) ⟨hx, hb, hml, hown, hts⟩ (c_X11_left l D cy κ G p0 k0 x24 (by omega) (0 : Int32)) (cwV 2 hts gX11_warm_X11_left rfl rfl rfl (by decide +kernel) ⟨Nat.le_of_ble_eq_true rfl, Nat.le_of_ble_eq_true rfl⟩) hK hT hS k0 (by decide) rfl rfl hl.1 rfl (Nat.le_of_ble_eq_true rfl) dX11_warm_92 ⟨Nat.zero_le _, Nat.zero_le _⟩ (fun x31 u32 H locs hpu32 hT hS => ?_)
                  obtain ⟨huu32, qu32⟩ := hpu32
                  rw [huu32] at hT
                  clear qu32
                  refine lv_aload_n hx hb dX11_warm_95 rfl (lv_at hl 6 rfl) ?_
                  refine gf_11_11 hx hb hts hin11 hown hK hT k0 hfl29 dX11_warm_96 (fun a33 ka33 fva33 => ?_)
                  refine lv_aload_n hx hb dX11_warm_99 rfl (lv_at hl 6 rfl) ?_
                  refine gf_11_14 hx hb hts hin11 hown hK hT k0 hfl38 dX11_warm_100 (fun a34 ka34 fva34 => ?_)
                  refine lv_iload hx hb dX11_warm_103 (lv_at hl 1 rfl) ?_
                  refine tw_ia (K := 51) (n := 60) (P := fun x => (0 ≤ x.toInt ∧ x.toInt ≤ 2) ∧ (x.toInt = 0 ∨ x.toInt < (G.1 3).toInt)) hx hb hK hT ka34 (by decide) rfl rfl (by omega) rfl dX11_warm_105 (fun x35 kx35 fvx35 => ?_)
                  have kx35 : (0 ≤ x35.toInt ∧ x35.toInt ≤ 2) ∧ (x35.toInt = 0 ∨ x35.toInt < (G.1 3).toInt) := kx35
                  refine tw_ia (K := 1003) (n := 3) (P := fun _ => True) hx hb hK hT ka33 (by decide) rfl rfl (by omega) rfl dX11_warm_106 (fun x36 _ fvx36 => ?_)
                  refine lv_imul hx hb dX11_warm_107 ?_
                  refine lv_topi (fun x37 ex37 => ?_)
                  have tx37 : x37.toInt = (x31 * x36).toInt := by rw [ex37]
                  refine lv_aload_n hx hb dX11_warm_108 rfl (lv_at hl 6 rfl) ?_
                  refine lv_iload hx hb dX11_warm_109 (lv_at hl 1 rfl) ?_
                  refine lv_iconst (v := (2 : Int32)) hx hb dX11_warm_111 (by decide) ?_
                  refine tw_Vi (q := (RX11, TX11, 31)) (As := [.int x24, .int (2 : Int32)]) (rest := [.int x37, .long y30]) ⟨hx, hb, hml, hown, hts⟩ (c_X11_left l D cy κ G p0 k0 x24 (by omega) (2 : Int32)) (cwV 2 hts gX11_warm_X11_left rfl rfl rfl (by decide +kernel) ⟨Nat.le_of_ble_eq_true rfl, Nat.le_of_ble_eq_true rfl⟩) hK hT hS k0 (by decide) rfl rfl hl.1 rfl (Nat.le_of_ble_eq_true rfl) dX11_warm_112 ⟨Nat.zero_le _, Nat.zero_le _⟩ (fun x38 u39 H locs hpu39 hT hS => ?_)
                  obtain ⟨huu39, qu39⟩ := hpu39
                  rw [huu39] at hT
                  clear qu39
                  refine lv_aload_n hx hb dX11_warm_115 rfl (lv_at hl 6 rfl) ?_
                  refine gf_11_12 hx hb hts hin11 hown hK hT k0 hfl32 dX11_warm_116 (fun a40 ka40 fva40 => ?_)
                  refine lv_aload_n hx hb dX11_warm_119 rfl (lv_at hl 6 rfl) ?_
                  refine gf_11_14 hx hb hts hin11 hown hK hT k0 hfl38 dX11_warm_120 (fun a41 ka41 fva41 => ?_)
                  refine lv_iload hx hb dX11_warm_123 (lv_at hl 1 rfl) ?_
                  refine tw_ia (K := 51) (n := 60) (P := fun x => (0 ≤ x.toInt ∧ x.toInt ≤ 2) ∧ (x.toInt = 0 ∨ x.toInt < (G.1 3).toInt)) hx hb hK hT ka41 (by decide) rfl rfl (by omega) rfl dX11_warm_125 (fun x42 kx42 fvx42 => ?_)
                  have kx42 : (0 ≤ x42.toInt ∧ x42.toInt ≤ 2) ∧ (x42.toInt = 0 ∨ x42.toInt < (G.1 3).toInt) := kx42
                  refine tw_ia (K := 1003) (n := 3) (P := fun _ => True) hx hb hK hT ka40 (by decide) rfl rfl (by omega) rfl dX11_warm_126 (fun x43 _ fvx43 => ?_)
                  refine lv_imul hx hb dX11_warm_127 ?_
                  refine lv_topi (fun x44 ex44 => ?_)
                  have tx44 : x44.toInt = (x38 * x43).toInt := by rw [ex44]
                  refine lv_iadd hx hb dX11_warm_128 ?_
                  refine lv_topi (fun x45 ex45 => ?_)
                  have tx45 : x45.toInt = (x37 + x44).toInt := by rw [ex45]
                  refine lv_i2l hx hb dX11_warm_129 rfl ?_
                  refine lv_topl (fun y46 ey46 => ?_)
                  have ty46 : y46.toInt = x45.toInt := by rw [ey46]; exact Int32.toInt_toInt64 x45
                  refine lv_lmul hx hb dX11_warm_130 ?_
                  refine lv_topl (fun y47 ey47 => ?_)
                  refine lv_lstore (lv' := [(15, .long y47), (13, .long y30), (12, .int x24), (11, .int x13), (9, .long y14), (7, .long y15), (5, .long y16), (0, .ref p0), (1, .int p1), (2, .int p2), (3, .int p3), (4, .int p4)]) hx hb dX11_warm_131 hl (by decide) rfl (fun ls hl => ?_)
                  refine lv_lload hx hb dX11_warm_133 (lv_at hl 1 rfl) ?_
                  refine lv_aload_n hx hb dX11_warm_135 rfl (lv_at hl 7 rfl) ?_
                  refine lv_iload hx hb dX11_warm_136 (lv_at hl 2 rfl) ?_
                  refine lv_iconst (v := (2 : Int32)) hx hb dX11_warm_138 (by decide) ?_
                  refine tw_Vi (q := (RX11, TX11, 31)) (As := [.int x24, .int (2 : Int32)]) (rest := [.long y30]) ⟨hx, hb, hml, hown, hts⟩ (c_X11_left l D cy κ G p0 k0 x24 (by omega) (2 : Int32)) (cwV 2 hts gX11_warm_X11_left rfl rfl rfl (by decide +kernel) ⟨Nat.le_of_ble_eq_true rfl, Nat.le_of_ble_eq_true rfl⟩) hK hT hS k0 (by decide) rfl rfl hl.1 rfl (Nat.le_of_ble_eq_true rfl) dX11_warm_139 ⟨Nat.zero_le _, Nat.zero_le _⟩ (fun x48 u49 H locs hpu49 hT hS => ?_)
                  obtain ⟨huu49, qu49⟩ := hpu49
                  rw [huu49] at hT
                  clear qu49
                  refine lv_aload_n hx hb dX11_warm_142 rfl (lv_at hl 7 rfl) ?_
                  refine gf_11_11 hx hb hts hin11 hown hK hT k0 hfl29 dX11_warm_143 (fun a50 ka50 fva50 => ?_)
                  refine lv_aload_n hx hb dX11_warm_146 rfl (lv_at hl 7 rfl) ?_
                  refine gf_11_14 hx hb hts hin11 hown hK hT k0 hfl38 dX11_warm_147 (fun a51 ka51 fva51 => ?_)
                  refine lv_iload hx hb dX11_warm_150 (lv_at hl 2 rfl) ?_
                  refine tw_ia (K := 51) (n := 60) (P := fun x => (0 ≤ x.toInt ∧ x.toInt ≤ 2) ∧ (x.toInt = 0 ∨ x.toInt < (G.1 3).toInt)) hx hb hK hT ka51 (by decide) rfl rfl (by omega) rfl dX11_warm_152 (fun x52 kx52 fvx52 => ?_)
                  have kx52 : (0 ≤ x52.toInt ∧ x52.toInt ≤ 2) ∧ (x52.toInt = 0 ∨ x52.toInt < (G.1 3).toInt) := kx52
                  refine tw_ia (K := 1003) (n := 3) (P := fun _ => True) hx hb hK hT ka50 (by decide) rfl rfl (by omega) rfl dX11_warm_153 (fun x53 _ fvx53 => ?_)
                  refine lv_imul hx hb dX11_warm_154 ?_
                  refine lv_topi (fun x54 ex54 => ?_)
                  have tx54 : x54.toInt = (x48 * x53).toInt := by rw [ex54]
                  refine lv_aload_n hx hb dX11_warm_155 rfl (lv_at hl 7 rfl) ?_
                  refine lv_iload hx hb dX11_warm_156 (lv_at hl 2 rfl) ?_
                  refine lv_iconst (v := (1 : Int32)) hx hb dX11_warm_158 (by decide) ?_
                  refine tw_Vi (q := (RX11, TX11, 31)) (As := [.int x24, .int (1 : Int32)]) (rest := [.int x54, .long y30]) ⟨hx, hb, hml, hown, hts⟩ (c_X11_left l D cy κ G p0 k0 x24 (by omega) (1 : Int32)) (cwV 2 hts gX11_warm_X11_left rfl rfl rfl (by decide +kernel) ⟨Nat.le_of_ble_eq_true rfl, Nat.le_of_ble_eq_true rfl⟩) hK hT hS k0 (by decide) rfl rfl hl.1 rfl (Nat.le_of_ble_eq_true rfl) dX11_warm_159 ⟨Nat.zero_le _, Nat.zero_le _⟩ (fun x55 u56 H locs hpu56 hT hS => ?_)
                  obtain ⟨huu56, qu56⟩ := hpu56
                  rw [huu56] at hT
                  clear qu56
                  refine lv_aload_n hx hb dX11_warm_162 rfl (lv_at hl 7 rfl) ?_
                  refine gf_11_12 hx hb hts hin11 hown hK hT k0 hfl32 dX11_warm_163 (fun a57 ka57 fva57 => ?_)
                  refine lv_aload_n hx hb dX11_warm_166 rfl (lv_at hl 7 rfl) ?_
                  refine gf_11_14 hx hb hts hin11 hown hK hT k0 hfl38 dX11_warm_167 (fun a58 ka58 fva58 => ?_)
                  refine lv_iload hx hb dX11_warm_170 (lv_at hl 2 rfl) ?_
                  refine tw_ia (K := 51) (n := 60) (P := fun x => (0 ≤ x.toInt ∧ x.toInt ≤ 2) ∧ (x.toInt = 0 ∨ x.toInt < (G.1 3).toInt)) hx hb hK hT ka58 (by decide) rfl rfl (by omega) rfl dX11_warm_172 (fun x59 kx59 fvx59 => ?_)
                  have kx59 : (0 ≤ x59.toInt ∧ x59.toInt ≤ 2) ∧ (x59.toInt = 0 ∨ x59.toInt < (G.1 3).toInt) := kx59
                  refine tw_ia (K := 1003) (n := 3) (P := fun _ => True) hx hb hK hT ka57 (by decide) rfl rfl (by omega) rfl dX11_warm_173 (fun x60 _ fvx60 => ?_)
                  refine lv_imul hx hb dX11_warm_174 ?_
                  refine lv_topi (fun x61 ex61 => ?_)
                  have tx61 : x61.toInt = (x55 * x60).toInt := by rw [ex61]
                  refine lv_iadd hx hb dX11_warm_175 ?_
                  refine lv_topi (fun x62 ex62 => ?_)
                  have tx62 : x62.toInt = (x54 + x61).toInt := by rw [ex62]
                  refine lv_i2l hx hb dX11_warm_176 rfl ?_
                  refine lv_topl (fun y63 ey63 => ?_)
                  have ty63 : y63.toInt = x62.toInt := by rw [ey63]; exact Int32.toInt_toInt64 x62
                  refine lv_lmul hx hb dX11_warm_177 ?_
                  refine lv_topl (fun y64 ey64 => ?_)
                  refine lv_lstore (lv' := [(17, .long y64), (15, .long y47), (13, .long y30), (12, .int x24), (11, .int x13), (9, .long y14), (7, .long y15), (5, .long y16), (0, .ref p0), (1, .int p1), (2, .int p2), (3, .int p3), (4, .int p4)]) hx hb dX11_warm_178 hl (by decide) rfl (fun ls hl => ?_)
                  refine lv_lload hx hb dX11_warm_180 (lv_at hl 7 rfl) ?_
                  refine lv_aload_n hx hb dX11_warm_182 rfl (lv_at hl 8 rfl) ?_
                  refine gf_11_15 hx hb hts hin11 hown hK hT k0 hfl41 dX11_warm_183 (fun a65 ka65 fva65 => ?_)
                  refine lv_iload hx hb dX11_warm_186 (lv_at hl 3 rfl) ?_
                  refine tw_ia (K := 1060) (n := 60) (P := fun _ => True) hx hb hK hT ka65 (by decide) rfl rfl (by omega) rfl dX11_warm_188 (fun x66 _ fvx66 => ?_)
                  have J230 : ∀ (H : Heap) (locs : List Loc) (ls : Array Slot) (y67 : Int64), (TW D cy κ G H) → (va_S (AA κ) s.heap H locs) → (lv_has ls 19 [(17, .long y64), (15, .long y47), (13, .long y30), (12, .int x24), (11, .int x13), (9, .long y14), (7, .long y15), (5, .long y16), (0, .ref p0), (1, .int p1), (2, .int p2), (3, .int p3), (4, .int p4)]) → W p l e rmX11_warm s m args below meth c H locs 0 0 Q (F0 m 230 ls [.long y67, .long y16]) := by
                    intro H locs ls y67 hT hS hl 
                    refine lv_ladd hx hb dX11_warm_230 ?_
                    refine lv_topl (fun y68 ey68 => ?_)
                    refine lv_lstore (lv' := [(5, .long y68), (17, .long y64), (15, .long y47), (13, .long y30), (12, .int x24), (11, .int x13), (9, .long y14), (7, .long y15), (0, .ref p0), (1, .int p1), (2, .int p2), (3, .int p3), (4, .int p4)]) hx hb dX11_warm_231 hl (by decide) rfl (fun ls hl => ?_)
                    refine lv_lload hx hb dX11_warm_233 (lv_at hl 7 rfl) ?_
                    refine lv_aload_n hx hb dX11_warm_235 rfl (lv_at hl 8 rfl) ?_
                    refine gf_11_15 hx hb hts hin11 hown hK hT k0 hfl41 dX11_warm_236 (fun a69 ka69 fva69 => ?_)
                    refine lv_iload hx hb dX11_warm_239 (lv_at hl 4 rfl) ?_
                    refine tw_ia (K := 1060) (n := 60) (P := fun _ => True) hx hb hK hT ka69 (by decide) rfl rfl (by omega) rfl dX11_warm_241 (fun x70 _ fvx70 => ?_)
                    have J283 : ∀ (H : Heap) (locs : List Loc) (ls : Array Slot) (y71 : Int64), (TW D cy κ G H) → (va_S (AA κ) s.heap H locs) → (lv_has ls 19 [(5, .long y68), (17, .long y64), (15, .long y47), (13, .long y30), (12, .int x24), (11, .int x13), (9, .long y14), (7, .long y15), (0, .ref p0), (1, .int p1), (2, .int p2), (3, .int p3), (4, .int p4)]) → W p l e rmX11_warm s m args below meth c H locs 0 0 Q (F0 m 283 ls [.long y71, .long y15]) := by
                      intro H locs ls y71 hT hS hl 
                      refine lv_ladd hx hb dX11_warm_283 ?_
                      refine lv_topl (fun y72 ey72 => ?_)
                      refine lv_lstore (lv' := [(7, .long y72), (5, .long y68), (17, .long y64), (15, .long y47), (13, .long y30), (12, .int x24), (11, .int x13), (9, .long y14), (0, .ref p0), (1, .int p1), (2, .int p2), (3, .int p3), (4, .int p4)]) hx hb dX11_warm_284 hl (by decide) rfl (fun ls hl => ?_)
                      refine lv_lload hx hb dX11_warm_286 (lv_at hl 7 rfl) ?_
                      refine lv_aload_n hx hb dX11_warm_288 rfl (lv_at hl 8 rfl) ?_
                      refine gf_11_15 hx hb hts hin11 hown hK hT k0 hfl41 dX11_warm_289 (fun a73 ka73 fva73 => ?_)
                      refine lv_iload hx hb dX11_warm_292 (lv_at hl 5 rfl) ?_
                      refine tw_ia (K := 1060) (n := 60) (P := fun _ => True) hx hb hK hT ka73 (by decide) rfl rfl (by omega) rfl dX11_warm_294 (fun x74 _ fvx74 => ?_)
                      refine lv_iconst (v := (2 : Int32)) hx hb dX11_warm_295 (by decide) ?_
                      have J335 : ∀ (H : Heap) (locs : List Loc) (ls : Array Slot) (y75 : Int64), (TW D cy κ G H) → (va_S (AA κ) s.heap H locs) → (lv_has ls 19 [(7, .long y72), (5, .long y68), (17, .long y64), (15, .long y47), (13, .long y30), (12, .int x24), (11, .int x13), (9, .long y14), (0, .ref p0), (1, .int p1), (2, .int p2), (3, .int p3), (4, .int p4)]) → W p l e rmX11_warm s m args below meth c H locs 0 0 Q (F0 m 335 ls [.long y75, .long y14]) := by
                        intro H locs ls y75 hT hS hl 
                        refine lv_ladd hx hb dX11_warm_335 ?_
                        refine lv_topl (fun y76 ey76 => ?_)
                        refine lv_lstore (lv' := [(9, .long y76), (7, .long y72), (5, .long y68), (17, .long y64), (15, .long y47), (13, .long y30), (12, .int x24), (11, .int x13), (0, .ref p0), (1, .int p1), (2, .int p2), (3, .int p3), (4, .int p4)]) hx hb dX11_warm_336 hl (by decide) rfl (fun ls hl => ?_)
                        obtain ⟨x77, ex77⟩ : ∃ z : Int32, z = x13 + (1 : Int32) := ⟨_, rfl⟩
                        refine lv_iinc (v := x77) (lv' := [(11, .int x77), (9, .long y76), (7, .long y72), (5, .long y68), (17, .long y64), (15, .long y47), (13, .long y30), (12, .int x24), (0, .ref p0), (1, .int p1), (2, .int p2), (3, .int p3), (4, .int p4)]) hx hb dX11_warm_338 hl (k := 7) rfl (by rw [ex77]; rfl) (by decide) rfl (fun ls hl => ?_)
                        have tx77 : x77.toInt = x13.toInt + 1 := by rw [ex77, ti_add (by have := i32b x13; have := i32b x24; have := i32b p1; have := i32b p2; have := i32b p3; have := i32b p4; omega), hc1]
                        refine lv_goto (tgt := 54) hx hb dX11_warm_341 (by decide) ?_
                        exact ih54 ((2147483647 - x77.toInt).toNat) (by have := i32b x77; have := i32b x24; have := i32b p1; have := i32b p2; have := i32b p3; have := i32b p4; omega) H locs ls x77 y76 y72 y68 rfl hT hS (lv_sub hl [0, 1, 2, 3, 8, 9, 10, 11, 12] rfl) (by omega)
                      refine tb_icmp_ge (tgt := 303) hx hb dX11_warm_296 (by decide) (fun c78 => ?_) (fun c78 => ?_)
                      · skip
                        refine lv_aload_n hx hb dX11_warm_303 rfl (lv_at hl 8 rfl) ?_
                        refine gf_11_15 hx hb hts hin11 hown hK hT k0 hfl41 dX11_warm_304 (fun a79 ka79 fva79 => ?_)
                        obtain rfl : a73 = a79 := eRef (FV.eq fva73 fva79)
                        refine lv_iload hx hb dX11_warm_307 (lv_at hl 5 rfl) ?_
                        refine tw_ia (K := 1060) (n := 60) (P := fun _ => True) hx hb hK hT ka73 (by decide) rfl rfl (by omega) rfl dX11_warm_309 (fun x80 _ fvx80 => ?_)
                        obtain rfl : x74 = x80 := eInt (AV.eq fvx74 fvx80)
                        refine lv_iconst (v := (2 : Int32)) hx hb dX11_warm_310 (by decide) ?_
                        refine tb_icmp_ne (tgt := 326) hx hb dX11_warm_311 (by decide) (fun c81 => ?_) (fun c81 => ?_)
                        · skip
                          refine lv_ldc2 hx hb hown hkl156 dX11_warm_326 ?_
                          refine lv_lload hx hb dX11_warm_329 (lv_at hl 2 rfl) ?_
                          refine lv_lload hx hb dX11_warm_331 (lv_at hl 3 rfl) ?_
                          refine lv_lsub hx hb dX11_warm_333 ?_
                          refine lv_topl (fun y82 ey82 => ?_)
                          refine lv_lmul hx hb dX11_warm_334 ?_
                          refine lv_topl (fun y83 ey83 => ?_)
                          exact J335 H locs ls y83 hT hS (lv_sub hl [0, 1, 2, 3, 4, 5, 6, 7, 8, 9, 10, 11, 12] rfl) 
                        · skip
                          refine lv_ldc2 hx hb hown hkl156 dX11_warm_314 ?_
                          refine lv_lload hx hb dX11_warm_317 (lv_at hl 3 rfl) ?_
                          refine lv_lload hx hb dX11_warm_319 (lv_at hl 2 rfl) ?_
                          refine lv_lsub hx hb dX11_warm_321 ?_
                          refine lv_topl (fun y84 ey84 => ?_)
                          refine lv_lmul hx hb dX11_warm_322 ?_
                          refine lv_topl (fun y85 ey85 => ?_)
                          refine lv_goto (tgt := 335) hx hb dX11_warm_323 (by decide) ?_
                          exact J335 H locs ls y85 hT hS (lv_sub hl [0, 1, 2, 3, 4, 5, 6, 7, 8, 9, 10, 11, 12] rfl) 
                      · skip
                        refine lv_lconst (v := 0) hx hb dX11_warm_299 (by decide) ?_
                        refine lv_goto (tgt := 335) hx hb dX11_warm_300 (by decide) ?_
                        exact J335 H locs ls (0 : Int64) hT hS (lv_sub hl [0, 1, 2, 3, 4, 5, 6, 7, 8, 9, 10, 11, 12] rfl) 
                    refine tb_if_ne (tgt := 254) hx hb dX11_warm_242 (by decide) (fun c86 => ?_) (fun c86 => ?_)
                    · skip
                      refine lv_aload_n hx hb dX11_warm_254 rfl (lv_at hl 8 rfl) ?_
                      refine gf_11_15 hx hb hts hin11 hown hK hT k0 hfl41 dX11_warm_255 (fun a87 ka87 fva87 => ?_)
                      obtain rfl : a69 = a87 := eRef (FV.eq fva69 fva87)
                      refine lv_iload hx hb dX11_warm_258 (lv_at hl 4 rfl) ?_
                      refine tw_ia (K := 1060) (n := 60) (P := fun _ => True) hx hb hK hT ka69 (by decide) rfl rfl (by omega) rfl dX11_warm_260 (fun x88 _ fvx88 => ?_)
                      obtain rfl : x70 = x88 := eInt (AV.eq fvx70 fvx88)
                      refine lv_iconst (v := (1 : Int32)) hx hb dX11_warm_261 (by decide) ?_
                      refine tb_icmp_ne (tgt := 274) hx hb dX11_warm_262 (by decide) (fun c89 => ?_) (fun c89 => ?_)
                      · skip
                        refine lv_ldc2 hx hb hown hkl156 dX11_warm_274 ?_
                        refine lv_lload hx hb dX11_warm_277 (lv_at hl 2 rfl) ?_
                        refine lv_lload hx hb dX11_warm_279 (lv_at hl 1 rfl) ?_
                        refine lv_ladd hx hb dX11_warm_281 ?_
                        refine lv_topl (fun y90 ey90 => ?_)
                        refine lv_lmul hx hb dX11_warm_282 ?_
                        refine lv_topl (fun y91 ey91 => ?_)
                        exact J283 H locs ls y91 hT hS (lv_sub hl [0, 1, 2, 3, 4, 5, 6, 7, 8, 9, 10, 11, 12] rfl) 
                      · skip
                        refine lv_ldc2 hx hb hown hkl150 dX11_warm_265 ?_
                        refine lv_lload hx hb dX11_warm_268 (lv_at hl 2 rfl) ?_
                        refine lv_lmul hx hb dX11_warm_270 ?_
                        refine lv_topl (fun y92 ey92 => ?_)
                        refine lv_goto (tgt := 283) hx hb dX11_warm_271 (by decide) ?_
                        exact J283 H locs ls y92 hT hS (lv_sub hl [0, 1, 2, 3, 4, 5, 6, 7, 8, 9, 10, 11, 12] rfl) 
                    · skip
                      refine lv_ldc2 hx hb hown hkl150 dX11_warm_245 ?_
                      refine lv_lload hx hb dX11_warm_248 (lv_at hl 1 rfl) ?_
                      refine lv_lmul hx hb dX11_warm_250 ?_
                      refine lv_topl (fun y93 ey93 => ?_)
                      refine lv_goto (tgt := 283) hx hb dX11_warm_251 (by decide) ?_
                      exact J283 H locs ls y93 hT hS (lv_sub hl [0, 1, 2, 3, 4, 5, 6, 7, 8, 9, 10, 11, 12] rfl) 
                  refine tb_if_ne (tgt := 201) hx hb dX11_warm_189 (by decide) (fun c94 => ?_) (fun c94 => ?_)
                  · skip
                    refine lv_aload_n hx hb dX11_warm_201 rfl (lv_at hl 8 rfl) ?_
                    refine gf_11_15 hx hb hts hin11 hown hK hT k0 hfl41 dX11_warm_202 (fun a95 ka95 fva95 => ?_)
                    obtain rfl : a65 = a95 := eRef (FV.eq fva65 fva95)
                    refine lv_iload hx hb dX11_warm_205 (lv_at hl 3 rfl) ?_
                    refine tw_ia (K := 1060) (n := 60) (P := fun _ => True) hx hb hK hT ka65 (by decide) rfl rfl (by omega) rfl dX11_warm_207 (fun x96 _ fvx96 => ?_)
                    obtain rfl : x66 = x96 := eInt (AV.eq fvx66 fvx96)
                    refine lv_iconst (v := (1 : Int32)) hx hb dX11_warm_208 (by decide) ?_
                    refine tb_icmp_ne (tgt := 221) hx hb dX11_warm_209 (by decide) (fun c97 => ?_) (fun c97 => ?_)
                    · skip
                      refine lv_ldc2 hx hb hown hkl156 dX11_warm_221 ?_
                      refine lv_lload hx hb dX11_warm_224 (lv_at hl 1 rfl) ?_
                      refine lv_lload hx hb dX11_warm_226 (lv_at hl 0 rfl) ?_
                      refine lv_ladd hx hb dX11_warm_228 ?_
                      refine lv_topl (fun y98 ey98 => ?_)
                      refine lv_lmul hx hb dX11_warm_229 ?_
                      refine lv_topl (fun y99 ey99 => ?_)
                      exact J230 H locs ls y99 hT hS (lv_sub hl [0, 1, 2, 3, 4, 5, 6, 7, 8, 9, 10, 11, 12] rfl) 
                    · skip
                      refine lv_ldc2 hx hb hown hkl150 dX11_warm_212 ?_
                      refine lv_lload hx hb dX11_warm_215 (lv_at hl 0 rfl) ?_
                      refine lv_lmul hx hb dX11_warm_217 ?_
                      refine lv_topl (fun y100 ey100 => ?_)
                      refine lv_goto (tgt := 230) hx hb dX11_warm_218 (by decide) ?_
                      exact J230 H locs ls y100 hT hS (lv_sub hl [0, 1, 2, 3, 4, 5, 6, 7, 8, 9, 10, 11, 12] rfl) 
                  · skip
                    refine lv_ldc2 hx hb hown hkl150 dX11_warm_192 ?_
                    refine lv_lload hx hb dX11_warm_195 (lv_at hl 1 rfl) ?_
                    refine lv_lmul hx hb dX11_warm_197 ?_
                    refine lv_topl (fun y101 ey101 => ?_)
                    refine lv_goto (tgt := 230) hx hb dX11_warm_198 (by decide) ?_
                    exact J230 H locs ls y101 hT hS (lv_sub hl [0, 1, 2, 3, 4, 5, 6, 7, 8, 9, 10, 11, 12] rfl) 
            exact L54 _ H locs ls (0 : Int32) (0 : Int64) (0 : Int64) (0 : Int64) rfl hT hS (lv_sub hl [0, 1, 2, 3, 4, 5, 6, 7, 8] rfl) (by omega)
          · skip
            refine lv_ldc2 hx hb hown hkl112 dX11_warm_38 ?_
            exact hret H locs ls 41 (-9223372036854775808 : Int64) G dX11_warm_41 ⟨rfl, trivial⟩ hT hS
  exact main s.heap [] hT va_S.rf
