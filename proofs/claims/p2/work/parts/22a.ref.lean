abbrev rmX11_strength : Room := { frames := 2, cells := 0, slots := 0, locals := 43 }
set_option maxHeartbeats 4000000 in
set_option maxRecDepth 100000 in
theorem c_X11_strength (l : Launch) (D : va_G) (cy : Nat → ClassId) (κ : Nat → Nat) (G : Gh) (p0 : Nat) (k0 : κ p0 = 12) (p1 : Int32) (p2 : Int32) (p3 : Int32) : Met l yX11_strength wsX11_strength rmX11_strength (va_Pc [.ref p0, .int p1, .int p2, .int p3] (fun U => WW D cy κ G U)) (va_Qi (fun (r : Int32) (u : Gh) => u = G ∧ (True)) (fun u t => WW D cy κ u t) (AA κ)) 0 0 (AA κ) := by
  refine Met.twi (cc := cX11_strength) (maxL := 5) (by decide) rfl (Nat.le_of_ble_eq_true rfl) ?_
  intro p e s m args below meth c Q hx hb hml hown hts hK hT hret ls hl
  have hl : lv_has ls 5 [(0, .ref p0), (1, .int p1), (2, .int p2), (3, .int p3)] := hl
  have hcm1 : (-1 : Int32).toInt = -1 := rfl
  have hc0 : (0 : Int32).toInt = 0 := rfl
  have hc4 : (4 : Int32).toInt = 4 := rfl
  have hc1 : (1 : Int32).toInt = 1 := rfl
  have hc1000 : (1000 : Int32).toInt = 1000 := rfl
  have hfl26 := hts (.fieldLink RX11 26 "PlyPlatesModel" "strengths" "[I") (by decide +kernel)
  have hin11 : ∀ w ∈ u_ws RX11 TX11 31, w ∈ wsX11_strength := by decide +kernel
  have hc5 : (5 : Int32).toInt = 5 := rfl
  have hcm2 : (-2 : Int32).toInt = -2 := rfl
  have main : ∀ (H : Heap) (locs : List Loc), TW D cy κ G H → va_S (AA κ) s.heap H locs → W p l e rmX11_strength s m args below meth c H locs 0 0 Q (F0 m 0 ls []) := by
    intro H locs hT hS
    refine lv_aload_n hx hb dX11_strength_0 rfl (lv_at hl 0 rfl) ?_
    refine lv_iload_n hx hb dX11_strength_1 rfl (lv_at hl 1 rfl) ?_
    refine tw_Vi (q := (RX11, TX11, 31)) (As := [.int p1]) (rest := []) ⟨hx, hb, hml, hown, hts⟩ (c_X11_isStuff l D cy κ G p0 k0 p1) (cwV 1 hts gX11_strength_X11_isStuff rfl rfl rfl (by decide +kernel) ⟨Nat.le_of_ble_eq_true rfl, Nat.le_of_ble_eq_true rfl⟩) hK hT hS k0 (by decide) rfl rfl hl.1 rfl (Nat.le_of_ble_eq_true rfl) dX11_strength_2 ⟨Nat.zero_le _, Nat.zero_le _⟩ (fun x1 u2 H locs hpu2 hT hS => ?_)
    obtain ⟨huu2, qu2⟩ := hpu2
    rw [huu2] at hT
    refine tb_if_eq (tgt := 17) hx hb dX11_strength_5 (by decide) (fun c3 => ?_) (fun c3 => ?_)
    · skip
      refine lv_iconst (v := (-1 : Int32)) hx hb dX11_strength_17 (by decide) ?_
      exact hret H locs ls 18 (-1 : Int32) G dX11_strength_18 ⟨rfl, trivial⟩ hT hS
    · skip
      refine lv_iload_n hx hb dX11_strength_8 rfl (lv_at hl 2 rfl) ?_
      refine lv_iconst (v := (0 : Int32)) hx hb dX11_strength_9 (by decide) ?_
      refine lv_iconst (v := (4 : Int32)) hx hb dX11_strength_10 (by decide) ?_
      refine tw_Si (As := [.int p2, .int (0 : Int32), .int (4 : Int32)]) (rest := []) ⟨hx, hb, hml, hown, hts⟩ (c_X11_isIn l D cy κ G p2 (0 : Int32) (4 : Int32)) (va_cwS 3 hts gX11_strength_X11_isIn rfl rfl rfl (by decide +kernel) ⟨Nat.le_of_ble_eq_true rfl, Nat.le_of_ble_eq_true rfl⟩) hK hT hS rfl hl.1 rfl (Nat.le_of_ble_eq_true rfl) dX11_strength_11 ⟨Nat.zero_le _, Nat.zero_le _⟩ (fun x4 u5 H locs hpu5 hT hS => ?_)
      obtain ⟨huu5, qu5⟩ := hpu5
      rw [huu5] at hT
      refine tb_if_ne (tgt := 19) hx hb dX11_strength_14 (by decide) (fun c6 => ?_) (fun c6 => ?_)
      · skip
        refine lv_iload_n hx hb dX11_strength_19 rfl (lv_at hl 3 rfl) ?_
        refine lv_iconst (v := (1 : Int32)) hx hb dX11_strength_20 (by decide) ?_
        refine lv_sipush (v := (1000 : Int32)) hx hb dX11_strength_21 (by decide) ?_
        refine tw_Si (As := [.int p3, .int (1 : Int32), .int (1000 : Int32)]) (rest := []) ⟨hx, hb, hml, hown, hts⟩ (c_X11_isIn l D cy κ G p3 (1 : Int32) (1000 : Int32)) (va_cwS 3 hts gX11_strength_X11_isIn rfl rfl rfl (by decide +kernel) ⟨Nat.le_of_ble_eq_true rfl, Nat.le_of_ble_eq_true rfl⟩) hK hT hS rfl hl.1 rfl (Nat.le_of_ble_eq_true rfl) dX11_strength_24 ⟨Nat.zero_le _, Nat.zero_le _⟩ (fun x7 u8 H locs hpu8 hT hS => ?_)
        obtain ⟨huu8, qu8⟩ := hpu8
        rw [huu8] at hT
        refine tb_if_ne (tgt := 33) hx hb dX11_strength_27 (by decide) (fun c9 => ?_) (fun c9 => ?_)
        · skip
          refine lv_aload_n hx hb dX11_strength_33 rfl (lv_at hl 0 rfl) ?_
          refine gf_11_10 hx hb hts hin11 hown hK hT k0 hfl26 dX11_strength_34 (fun a10 ka10 fva10 => ?_)
          refine lv_iconst (v := (5 : Int32)) hx hb dX11_strength_37 (by decide) ?_
          refine lv_iload_n hx hb dX11_strength_38 rfl (lv_at hl 1 rfl) ?_
          refine lv_imul hx hb dX11_strength_39 ?_
          refine lv_topi (fun x11 ex11 => ?_)
          have tx11 : x11.toInt = 5 * p1.toInt := by rw [ex11, ti_mul (by rw [hc5]; have := i32b (5 : Int32); have := i32b p1; omega), hc5]
          refine lv_iload_n hx hb dX11_strength_40 rfl (lv_at hl 2 rfl) ?_
          refine lv_iadd hx hb dX11_strength_41 ?_
          refine lv_topi (fun x12 ex12 => ?_)
          have tx12 : x12.toInt = x11.toInt + p2.toInt := by rw [ex12]; exact ti_add (by have := i32b x11; have := i32b p2; omega)
          refine tw_ia (K := 53) (n := 15) (P := fun x => ((x12.toInt.toNat : Nat) : Int) < (G.1 9).toInt → 1 ≤ x.toInt) hx hb hK hT ka10 (by decide) rfl rfl (by omega) rfl dX11_strength_42 (fun x13 kx13 fvx13 => ?_)
          have kx13 : ((x12.toInt.toNat : Nat) : Int) < (G.1 9).toInt → 1 ≤ x13.toInt := kx13
          refine lv_istore (lv' := [(4, .int x13), (0, .ref p0), (1, .int p1), (2, .int p2), (3, .int p3)]) hx hb dX11_strength_43 hl (by decide) rfl (fun ls hl => ?_)
          refine lv_aload_n hx hb dX11_strength_45 rfl (lv_at hl 1 rfl) ?_
          refine gf_11_10 hx hb hts hin11 hown hK hT k0 hfl26 dX11_strength_46 (fun a14 ka14 fva14 => ?_)
          obtain rfl : a10 = a14 := eRef (FV.eq fva10 fva14)
          refine lv_iconst (v := (5 : Int32)) hx hb dX11_strength_49 (by decide) ?_
          refine lv_iload_n hx hb dX11_strength_50 rfl (lv_at hl 2 rfl) ?_
          refine lv_imul hx hb dX11_strength_51 ?_
          refine lv_topi (fun x15 ex15 => ?_)
          have tx15 : x15.toInt = 5 * p1.toInt := by rw [ex15, ti_mul (by rw [hc5]; have := i32b (5 : Int32); have := i32b p1; omega), hc5]
          refine lv_iload_n hx hb dX11_strength_52 rfl (lv_at hl 3 rfl) ?_
          refine lv_iadd hx hb dX11_strength_53 ?_
          refine lv_topi (fun x16 ex16 => ?_)
          have tx16 : x16.toInt = x15.toInt + p2.toInt := by rw [ex16]; exact ti_add (by have := i32b x15; have := i32b p2; omega)
          refine lv_iload_n hx hb dX11_strength_54 rfl (lv_at hl 4 rfl) ?_
          refine tw_ias (K := 53) (n := 15) (P := fun x => ((x16.toInt.toNat : Nat) : Int) < (G.1 9).toInt → 1 ≤ x.toInt) hx hb hK hT hS ka10 (by decide) rfl rfl (by omega) rfl (by intro _; omega) dX11_strength_55 (fun H locs hT hS hq => ?_)
          refine lv_iload hx hb dX11_strength_56 (lv_at hl 0 rfl) ?_
          exact hret H locs ls 58 x13 G dX11_strength_58 ⟨rfl, trivial⟩ hT hS
        · skip
          refine lv_bipush (v := (-2 : Int32)) hx hb dX11_strength_30 (by decide) ?_
          exact hret H locs ls 32 (-2 : Int32) G dX11_strength_32 ⟨rfl, trivial⟩ hT hS
      · skip
        refine lv_iconst (v := (-1 : Int32)) hx hb dX11_strength_17 (by decide) ?_
        exact hret H locs ls 18 (-1 : Int32) G dX11_strength_18 ⟨rfl, trivial⟩ hT hS
  exact main s.heap [] hT va_S.rf

abbrev rmX11_puts : Room := { frames := 1, cells := 0, slots := 0, locals := 21 }
set_option maxHeartbeats 4000000 in
set_option maxRecDepth 100000 in
theorem c_X11_puts (l : Launch) (D : va_G) (cy : Nat → ClassId) (κ : Nat → Nat) (G : Gh) (p0 : Nat) (k0 : κ p0 = 12) (p1 : Int32) (q1 : 0 ≤ p1.toInt ∧ p1.toInt ≤ 4) (p2 : Int32) (q2 : 0 ≤ p2.toInt ∧ p2.toInt ≤ 2) (p3 : Int32) (p4 : Int32) (p5 : Int32) (q5 : 0 ≤ p5.toInt ∧ p5.toInt ≤ 2) (hm : (G.1 (100 + p1.toInt.toNat)).toInt ≤ 11) (hs : p2.toInt = 0 ∨ p2.toInt < (G.1 3).toInt) (h3 : 0 < (G.1 3).toInt) : Met l yX11_puts wsX11_puts rmX11_puts (va_Pc [.ref p0, .int p1, .int p2, .int p3, .int p4, .int p5] (fun U => WW D cy κ G U)) (va_Qv (fun u : Gh => putsG u G (100 + p1.toInt.toNat) ∧ (True)) (fun u t => WW D cy κ u t) (AA κ)) 0 0 (AA κ) := by
  refine Met.twv (cc := cX11_puts) (maxL := 7) (by decide) rfl (Nat.le_of_ble_eq_true rfl) ?_
  intro p e s m args below meth c Q hx hb hml hown hts hK hT hret ls hl
  have hl : lv_has ls 7 [(0, .ref p0), (1, .int p1), (2, .int p2), (3, .int p3), (4, .int p4), (5, .int p5)] := hl
  have hfl35 := hts (.fieldLink RX11 35 "PlyPlatesModel" "many" "[I") (by decide +kernel)
  have hin11 : ∀ w ∈ u_ws RX11 TX11 31, w ∈ wsX11_puts := by decide +kernel
  have hfl38 := hts (.fieldLink RX11 38 "PlyPlatesModel" "stuff" "[I") (by decide +kernel)
  have hfl41 := hts (.fieldLink RX11 41 "PlyPlatesModel" "way" "[I") (by decide +kernel)
  have hfl44 := hts (.fieldLink RX11 44 "PlyPlatesModel" "thick" "[I") (by decide +kernel)
  have hfl47 := hts (.fieldLink RX11 47 "PlyPlatesModel" "broken" "[I") (by decide +kernel)
  have hc1 : (1 : Int32).toInt = 1 := rfl
  have main : ∀ (H : Heap) (locs : List Loc), TW D cy κ G H → va_S (AA κ) s.heap H locs → W p l e rmX11_puts s m args below meth c H locs 0 0 Q (F0 m 0 ls []) := by
    intro H locs hT hS
    refine lv_iload_n hx hb dX11_puts_0 rfl (lv_at hl 1 rfl) ?_
    refine lv_aload_n hx hb dX11_puts_1 rfl (lv_at hl 0 rfl) ?_
    refine gf_11_13 hx hb hts hin11 hown hK hT k0 hfl35 dX11_puts_2 (fun a1 ka1 fva1 => ?_)
    refine lv_iload_n hx hb dX11_puts_5 rfl (lv_at hl 1 rfl) ?_
    refine tw_ia (K := 50) (n := 5) (P := fun x => x = G.1 (100 + p1.toInt.toNat) ∧ (0 ≤ x.toInt ∧ x.toInt ≤ 12) ∧ ((G.1 3).toInt = 0 → x.toInt = 0)) hx hb hK hT ka1 (by decide) rfl rfl (by omega) rfl dX11_puts_6 (fun x2 kx2 fvx2 => ?_)
    have kx2 : x2 = G.1 (100 + p1.toInt.toNat) ∧ (0 ≤ x2.toInt ∧ x2.toInt ≤ 12) ∧ ((G.1 3).toInt = 0 → x2.toInt = 0) := kx2
    have gx2 := congrArg Int32.toInt kx2.1
    have rx2 := kx2.2
    refine tw_Si (As := [.int p1, .int x2]) (rest := []) ⟨hx, hb, hml, hown, hts⟩ (c_X11_spot l D cy κ G p1 (by omega) x2 (by omega)) (va_cwS 2 hts gX11_puts_X11_spot rfl rfl rfl (by decide +kernel) ⟨Nat.le_of_ble_eq_true rfl, Nat.le_of_ble_eq_true rfl⟩) hK hT hS rfl hl.1 rfl (Nat.le_of_ble_eq_true rfl) dX11_puts_7 ⟨Nat.zero_le _, Nat.zero_le _⟩ (fun x3 u4 H locs hpu4 hT hS => ?_)
    obtain ⟨huu4, qu4⟩ := hpu4
    rw [huu4] at hT
    refine lv_istore (lv' := [(6, .int x3), (0, .ref p0), (1, .int p1), (2, .int p2), (3, .int p3), (4, .int p4), (5, .int p5)]) hx hb dX11_puts_10 hl (by decide) rfl (fun ls hl => ?_)
    refine lv_aload_n hx hb dX11_puts_12 rfl (lv_at hl 1 rfl) ?_
    refine gf_11_14 hx hb hts hin11 hown hK hT k0 hfl38 dX11_puts_13 (fun a5 ka5 fva5 => ?_)
    refine lv_iload hx hb dX11_puts_16 (lv_at hl 0 rfl) ?_
    refine lv_iload_n hx hb dX11_puts_18 rfl (lv_at hl 3 rfl) ?_
    refine tw_ias (K := 51) (n := 60) (P := fun x => (0 ≤ x.toInt ∧ x.toInt ≤ 2) ∧ (x.toInt = 0 ∨ x.toInt < (G.1 3).toInt)) hx hb hK hT hS ka5 (by decide) rfl rfl (by omega) rfl (by constructor <;> omega) dX11_puts_19 (fun H locs hT hS hq => ?_)
    refine lv_aload_n hx hb dX11_puts_20 rfl (lv_at hl 1 rfl) ?_
    refine gf_11_15 hx hb hts hin11 hown hK hT k0 hfl41 dX11_puts_21 (fun a6 ka6 fva6 => ?_)
    refine lv_iload hx hb dX11_puts_24 (lv_at hl 0 rfl) ?_
    refine lv_iload_n hx hb dX11_puts_26 rfl (lv_at hl 4 rfl) ?_
    refine tw_ias (K := 1060) (n := 60) (P := fun _ => True) hx hb hK hT hS ka6 (by decide) rfl rfl (by omega) rfl trivial dX11_puts_27 (fun H locs hT hS hq => ?_)
    refine lv_aload_n hx hb dX11_puts_28 rfl (lv_at hl 1 rfl) ?_
    refine gf_11_16 hx hb hts hin11 hown hK hT k0 hfl44 dX11_puts_29 (fun a7 ka7 fva7 => ?_)
    refine lv_iload hx hb dX11_puts_32 (lv_at hl 0 rfl) ?_
    refine lv_iload hx hb dX11_puts_34 (lv_at hl 5 rfl) ?_
    refine tw_ias (K := 1060) (n := 60) (P := fun _ => True) hx hb hK hT hS ka7 (by decide) rfl rfl (by omega) rfl trivial dX11_puts_36 (fun H locs hT hS hq => ?_)
    refine lv_aload_n hx hb dX11_puts_37 rfl (lv_at hl 1 rfl) ?_
    refine gf_11_17 hx hb hts hin11 hown hK hT k0 hfl47 dX11_puts_38 (fun a8 ka8 fva8 => ?_)
    refine lv_iload hx hb dX11_puts_41 (lv_at hl 0 rfl) ?_
    refine lv_iload hx hb dX11_puts_43 (lv_at hl 6 rfl) ?_
    refine ag_52 hx hb hK hT hS ka8 (by omega) dX11_puts_45 (by omega) (fun H locs hT hS => ?_)
    obtain ⟨u9, eu9⟩ : ∃ u : Gh, u = cG G (200 + x3.toInt.toNat) p5 := ⟨_, rfl⟩
    rw [← eu9] at hT
    have au9 : (u9.1 (200 + x3.toInt.toNat)).toInt = p5.toInt := by rw [eu9, cG_at]
    have bu9 : ∀ j, j ≠ 200 + x3.toInt.toNat → u9.1 j = G.1 j := fun j hj => by rw [eu9]; exact if_neg hj
    have du9 : u9.2 = G.2 := by rw [eu9]; rfl
    refine lv_aload_n hx hb dX11_puts_46 rfl (lv_at hl 1 rfl) ?_
    refine gf_11_13 hx hb hts hin11 hown hK hT k0 hfl35 dX11_puts_47 (fun a10 ka10 fva10 => ?_)
    refine lv_iload_n hx hb dX11_puts_50 rfl (lv_at hl 2 rfl) ?_
    refine lv_dup2_11 hx hb dX11_puts_51 rfl rfl ?_
    refine tw_ia (K := 50) (n := 5) (P := fun x => x = u9.1 (100 + p1.toInt.toNat) ∧ (0 ≤ x.toInt ∧ x.toInt ≤ 12) ∧ ((u9.1 3).toInt = 0 → x.toInt = 0)) hx hb hK hT ka10 (by decide) rfl rfl (by omega) rfl dX11_puts_52 (fun x11 kx11 fvx11 => ?_)
    have kx11 : x11 = u9.1 (100 + p1.toInt.toNat) ∧ (0 ≤ x11.toInt ∧ x11.toInt ≤ 12) ∧ ((u9.1 3).toInt = 0 → x11.toInt = 0) := kx11
    have gx11 := congrArg Int32.toInt kx11.1
    have rx11 := kx11.2
    have zz12 : (u9.1 (100 + p1.toInt.toNat)).toInt = (G.1 (100 + p1.toInt.toNat)).toInt := congrArg Int32.toInt (bu9 (100 + p1.toInt.toNat) (by omega))
    have zz13 : (u9.1 (3)).toInt = (G.1 (3)).toInt := congrArg Int32.toInt (bu9 (3) (by omega))
    refine lv_iconst (v := (1 : Int32)) hx hb dX11_puts_53 (by decide) ?_
    refine lv_iadd hx hb dX11_puts_54 ?_
    refine lv_topi (fun x14 ex14 => ?_)
    have tx14 : x14.toInt = x11.toInt + (1 : Int32).toInt := by rw [ex14]; exact ti_add (by have := i32b x11; have := i32b (1 : Int32); omega)
    refine ag_50 hx hb hK hT hS ka10 (by omega) dX11_puts_55 (by omega) (fun H locs hT hS => ?_)
    obtain ⟨u15, eu15⟩ : ∃ u : Gh, u = cG u9 (100 + p1.toInt.toNat) x14 := ⟨_, rfl⟩
    rw [← eu15] at hT
    have au15 : (u15.1 (100 + p1.toInt.toNat)).toInt = x14.toInt := by rw [eu15, cG_at]
    have bu15 : ∀ j, j ≠ 100 + p1.toInt.toNat → u15.1 j = u9.1 j := fun j hj => by rw [eu15]; exact if_neg hj
    have du15 : u15.2 = u9.2 := by rw [eu15]; rfl
    exact hret H locs ls 56 u15 dX11_puts_56 ⟨⟨fun i h1 h2 => (bu15 i (by omega)).trans (bu9 i (by omega)), du15.trans du9, by omega⟩, trivial⟩ hT hS
  exact main s.heap [] hT va_S.rf

abbrev rmX11_lay : Room := { frames := 2, cells := 0, slots := 0, locals := 47 }
set_option maxHeartbeats 4000000 in
set_option maxRecDepth 100000 in
theorem c_X11_lay (l : Launch) (D : va_G) (cy : Nat → ClassId) (κ : Nat → Nat) (G : Gh) (p0 : Nat) (k0 : κ p0 = 12) (p1 : Int32) (p2 : Int32) (p3 : Int32) (p4 : Int32) : Met l yX11_lay wsX11_lay rmX11_lay (va_Pc [.ref p0, .int p1, .int p2, .int p3, .int p4] (fun U => WW D cy κ G U)) (va_Qi (fun (r : Int32) (u : Gh) => cntG u G ∧ (True)) (fun u t => WW D cy κ u t) (AA κ)) 0 0 (AA κ) := by
  refine Met.twi (cc := cX11_lay) (maxL := 5) (by decide) rfl (Nat.le_of_ble_eq_true rfl) ?_
  intro p e s m args below meth c Q hx hb hml hown hts hK hT hret ls hl
  have hl : lv_has ls 5 [(0, .ref p0), (1, .int p1), (2, .int p2), (3, .int p3), (4, .int p4)] := hl
  have hcm1 : (-1 : Int32).toInt = -1 := rfl
  have hc0 : (0 : Int32).toInt = 0 := rfl
  have hc3 : (3 : Int32).toInt = 3 := rfl
  have hc1 : (1 : Int32).toInt = 1 := rfl
  have hfl35 := hts (.fieldLink RX11 35 "PlyPlatesModel" "many" "[I") (by decide +kernel)
  have hin11 : ∀ w ∈ u_ws RX11 TX11 31, w ∈ wsX11_lay := by decide +kernel
  have hc12 : (12 : Int32).toInt = 12 := rfl
  have hcm4 : (-4 : Int32).toInt = -4 := rfl
  have hcm2 : (-2 : Int32).toInt = -2 := rfl
  have main : ∀ (H : Heap) (locs : List Loc), TW D cy κ G H → va_S (AA κ) s.heap H locs → W p l e rmX11_lay s m args below meth c H locs 0 0 Q (F0 m 0 ls []) := by
    intro H locs hT hS
    refine lv_aload_n hx hb dX11_lay_0 rfl (lv_at hl 0 rfl) ?_
    refine lv_iload_n hx hb dX11_lay_1 rfl (lv_at hl 1 rfl) ?_
    refine tw_Vi (q := (RX11, TX11, 31)) (As := [.int p1]) (rest := []) ⟨hx, hb, hml, hown, hts⟩ (c_X11_isPlate l D cy κ G p0 k0 p1) (cwV 1 hts gX11_lay_X11_isPlate rfl rfl rfl (by decide +kernel) ⟨Nat.le_of_ble_eq_true rfl, Nat.le_of_ble_eq_true rfl⟩) hK hT hS k0 (by decide) rfl rfl hl.1 rfl (Nat.le_of_ble_eq_true rfl) dX11_lay_2 ⟨Nat.zero_le _, Nat.zero_le _⟩ (fun x1 u2 H locs hpu2 hT hS => ?_)
    obtain ⟨huu2, qu2⟩ := hpu2
    rw [huu2] at hT
    refine tb_if_eq (tgt := 25) hx hb dX11_lay_5 (by decide) (fun c3 => ?_) (fun c3 => ?_)
    · skip
      refine lv_iconst (v := (-1 : Int32)) hx hb dX11_lay_25 (by decide) ?_
      exact hret H locs ls 26 (-1 : Int32) G dX11_lay_26 ⟨(cntG.rf G), trivial⟩ hT hS
    · skip
      refine lv_aload_n hx hb dX11_lay_8 rfl (lv_at hl 0 rfl) ?_
      refine lv_iload_n hx hb dX11_lay_9 rfl (lv_at hl 2 rfl) ?_
      refine tw_Vi (q := (RX11, TX11, 31)) (As := [.int p2]) (rest := []) ⟨hx, hb, hml, hown, hts⟩ (c_X11_isStuff l D cy κ G p0 k0 p2) (cwV 1 hts gX11_lay_X11_isStuff rfl rfl rfl (by decide +kernel) ⟨Nat.le_of_ble_eq_true rfl, Nat.le_of_ble_eq_true rfl⟩) hK hT hS k0 (by decide) rfl rfl hl.1 rfl (Nat.le_of_ble_eq_true rfl) dX11_lay_10 ⟨Nat.zero_le _, Nat.zero_le _⟩ (fun x4 u5 H locs hpu5 hT hS => ?_)
      obtain ⟨huu5, qu5⟩ := hpu5
      rw [huu5] at hT
      refine tb_if_eq (tgt := 25) hx hb dX11_lay_13 (by decide) (fun c6 => ?_) (fun c6 => ?_)
      · skip
        refine lv_iconst (v := (-1 : Int32)) hx hb dX11_lay_25 (by decide) ?_
        exact hret H locs ls 26 (-1 : Int32) G dX11_lay_26 ⟨(cntG.rf G), trivial⟩ hT hS
      · skip
        refine lv_iload_n hx hb dX11_lay_16 rfl (lv_at hl 3 rfl) ?_
        refine lv_iconst (v := (0 : Int32)) hx hb dX11_lay_17 (by decide) ?_
        refine lv_iconst (v := (3 : Int32)) hx hb dX11_lay_18 (by decide) ?_
        refine tw_Si (As := [.int p3, .int (0 : Int32), .int (3 : Int32)]) (rest := []) ⟨hx, hb, hml, hown, hts⟩ (c_X11_isIn l D cy κ G p3 (0 : Int32) (3 : Int32)) (va_cwS 3 hts gX11_lay_X11_isIn rfl rfl rfl (by decide +kernel) ⟨Nat.le_of_ble_eq_true rfl, Nat.le_of_ble_eq_true rfl⟩) hK hT hS rfl hl.1 rfl (Nat.le_of_ble_eq_true rfl) dX11_lay_19 ⟨Nat.zero_le _, Nat.zero_le _⟩ (fun x7 u8 H locs hpu8 hT hS => ?_)
        obtain ⟨huu8, qu8⟩ := hpu8
        rw [huu8] at hT
        refine tb_if_ne (tgt := 27) hx hb dX11_lay_22 (by decide) (fun c9 => ?_) (fun c9 => ?_)
        · skip
          refine lv_iload hx hb dX11_lay_27 (lv_at hl 4 rfl) ?_
          refine lv_iconst (v := (1 : Int32)) hx hb dX11_lay_29 (by decide) ?_
          refine lv_iconst (v := (3 : Int32)) hx hb dX11_lay_30 (by decide) ?_
          refine tw_Si (As := [.int p4, .int (1 : Int32), .int (3 : Int32)]) (rest := []) ⟨hx, hb, hml, hown, hts⟩ (c_X11_isIn l D cy κ G p4 (1 : Int32) (3 : Int32)) (va_cwS 3 hts gX11_lay_X11_isIn rfl rfl rfl (by decide +kernel) ⟨Nat.le_of_ble_eq_true rfl, Nat.le_of_ble_eq_true rfl⟩) hK hT hS rfl hl.1 rfl (Nat.le_of_ble_eq_true rfl) dX11_lay_31 ⟨Nat.zero_le _, Nat.zero_le _⟩ (fun x10 u11 H locs hpu11 hT hS => ?_)
          obtain ⟨huu11, qu11⟩ := hpu11
          rw [huu11] at hT
          refine tb_if_ne (tgt := 40) hx hb dX11_lay_34 (by decide) (fun c12 => ?_) (fun c12 => ?_)
          · skip
            refine lv_aload_n hx hb dX11_lay_40 rfl (lv_at hl 0 rfl) ?_
            refine gf_11_13 hx hb hts hin11 hown hK hT k0 hfl35 dX11_lay_41 (fun a13 ka13 fva13 => ?_)
            refine lv_iload_n hx hb dX11_lay_44 rfl (lv_at hl 1 rfl) ?_
            refine tw_ia (K := 50) (n := 5) (P := fun x => x = G.1 (100 + p1.toInt.toNat) ∧ (0 ≤ x.toInt ∧ x.toInt ≤ 12) ∧ ((G.1 3).toInt = 0 → x.toInt = 0)) hx hb hK hT ka13 (by decide) rfl rfl (by omega) rfl dX11_lay_45 (fun x14 kx14 fvx14 => ?_)
            have kx14 : x14 = G.1 (100 + p1.toInt.toNat) ∧ (0 ≤ x14.toInt ∧ x14.toInt ≤ 12) ∧ ((G.1 3).toInt = 0 → x14.toInt = 0) := kx14
            have gx14 := congrArg Int32.toInt kx14.1
            have rx14 := kx14.2
            refine lv_bipush (v := (12 : Int32)) hx hb dX11_lay_46 (by decide) ?_
            refine tb_icmp_ne (tgt := 54) hx hb dX11_lay_48 (by decide) (fun c15 => ?_) (fun c15 => ?_)
            · skip
              refine lv_aload_n hx hb dX11_lay_54 rfl (lv_at hl 0 rfl) ?_
              refine lv_iload_n hx hb dX11_lay_55 rfl (lv_at hl 1 rfl) ?_
              refine lv_iload_n hx hb dX11_lay_56 rfl (lv_at hl 2 rfl) ?_
              refine lv_iload_n hx hb dX11_lay_57 rfl (lv_at hl 3 rfl) ?_
              refine lv_iload hx hb dX11_lay_58 (lv_at hl 4 rfl) ?_
              refine lv_iconst (v := (0 : Int32)) hx hb dX11_lay_60 (by decide) ?_
              refine tw_Vv (q := (RX11, TX11, 31)) (As := [.int p1, .int p2, .int p3, .int p4, .int (0 : Int32)]) (rest := []) ⟨hx, hb, hml, hown, hts⟩ (c_X11_puts l D cy κ G p0 k0 p1 (by omega) p2 (by omega) p3 p4 (0 : Int32) (by omega) (by omega) (by omega) (by omega)) (cwV 5 hts gX11_lay_X11_puts rfl rfl rfl (by decide +kernel) ⟨Nat.le_of_ble_eq_true rfl, Nat.le_of_ble_eq_true rfl⟩) hK hT hS k0 (by decide) rfl rfl hl.1 rfl (Nat.le_of_ble_eq_true rfl) dX11_lay_61 ⟨Nat.zero_le _, Nat.zero_le _⟩ (fun u17 H locs hpu17 hT hS => ?_)
              obtain ⟨qu17, ru17⟩ := hpu17
              refine lv_aload_n hx hb dX11_lay_64 rfl (lv_at hl 0 rfl) ?_
              refine gf_11_13 hx hb hts hin11 hown hK hT k0 hfl35 dX11_lay_65 (fun a18 ka18 fva18 => ?_)
              refine lv_iload_n hx hb dX11_lay_68 rfl (lv_at hl 1 rfl) ?_
              refine tw_ia (K := 50) (n := 5) (P := fun x => x = u17.1 (100 + p1.toInt.toNat) ∧ (0 ≤ x.toInt ∧ x.toInt ≤ 12) ∧ ((u17.1 3).toInt = 0 → x.toInt = 0)) hx hb hK hT ka18 (by decide) rfl rfl (by omega) rfl dX11_lay_69 (fun x19 kx19 fvx19 => ?_)
              have kx19 : x19 = u17.1 (100 + p1.toInt.toNat) ∧ (0 ≤ x19.toInt ∧ x19.toInt ≤ 12) ∧ ((u17.1 3).toInt = 0 → x19.toInt = 0) := kx19
              have gx19 := congrArg Int32.toInt kx19.1
              have rx19 := kx19.2
              have zz20 : (u17.1 (3)).toInt = (G.1 (3)).toInt := congrArg Int32.toInt (qu17.1 (3) (by omega) (by omega))
              refine lv_iconst (v := (1 : Int32)) hx hb dX11_lay_70 (by decide) ?_
              refine lv_isub hx hb dX11_lay_71 ?_
              refine lv_topi (fun x21 ex21 => ?_)
              have tx21 : x21.toInt = x19.toInt - (1 : Int32).toInt := by rw [ex21]; exact ti_sub (by have := i32b x19; have := i32b (1 : Int32); omega)
              exact hret H locs ls 72 x21 u17 dX11_lay_72 ⟨(cntG.tr_puts qu17 (by omega) (cntG.rf G)), trivial⟩ hT hS
            · skip
              refine lv_bipush (v := (-4 : Int32)) hx hb dX11_lay_51 (by decide) ?_
              exact hret H locs ls 53 (-4 : Int32) G dX11_lay_53 ⟨(cntG.rf G), trivial⟩ hT hS
          · skip
            refine lv_bipush (v := (-2 : Int32)) hx hb dX11_lay_37 (by decide) ?_
            exact hret H locs ls 39 (-2 : Int32) G dX11_lay_39 ⟨(cntG.rf G), trivial⟩ hT hS
        · skip
          refine lv_iconst (v := (-1 : Int32)) hx hb dX11_lay_25 (by decide) ?_
          exact hret H locs ls 26 (-1 : Int32) G dX11_lay_26 ⟨(cntG.rf G), trivial⟩ hT hS
  exact main s.heap [] hT va_S.rf

abbrev rmX11_peel : Room := { frames := 2, cells := 0, slots := 0, locals := 43 }
set_option maxHeartbeats 4000000 in
set_option maxRecDepth 100000 in
theorem c_X11_peel (l : Launch) (D : va_G) (cy : Nat → ClassId) (κ : Nat → Nat) (G : Gh) (p0 : Nat) (k0 : κ p0 = 12) (p1 : Int32) : Met l yX11_peel wsX11_peel rmX11_peel (va_Pc [.ref p0, .int p1] (fun U => WW D cy κ G U)) (va_Qi (fun (r : Int32) (u : Gh) => cntG u G ∧ (True)) (fun u t => WW D cy κ u t) (AA κ)) 0 0 (AA κ) := by
  refine Met.twi (cc := cX11_peel) (maxL := 2) (by decide) rfl (Nat.le_of_ble_eq_true rfl) ?_
  intro p e s m args below meth c Q hx hb hml hown hts hK hT hret ls hl
  have hl : lv_has ls 2 [(0, .ref p0), (1, .int p1)] := hl
  have hfl35 := hts (.fieldLink RX11 35 "PlyPlatesModel" "many" "[I") (by decide +kernel)
  have hin11 : ∀ w ∈ u_ws RX11 TX11 31, w ∈ wsX11_peel := by decide +kernel
  have hc1 : (1 : Int32).toInt = 1 := rfl
  have hcm3 : (-3 : Int32).toInt = -3 := rfl
  have hcm1 : (-1 : Int32).toInt = -1 := rfl
  have main : ∀ (H : Heap) (locs : List Loc), TW D cy κ G H → va_S (AA κ) s.heap H locs → W p l e rmX11_peel s m args below meth c H locs 0 0 Q (F0 m 0 ls []) := by
    intro H locs hT hS
    refine lv_aload_n hx hb dX11_peel_0 rfl (lv_at hl 0 rfl) ?_
    refine lv_iload_n hx hb dX11_peel_1 rfl (lv_at hl 1 rfl) ?_
    refine tw_Vi (q := (RX11, TX11, 31)) (As := [.int p1]) (rest := []) ⟨hx, hb, hml, hown, hts⟩ (c_X11_isPlate l D cy κ G p0 k0 p1) (cwV 1 hts gX11_peel_X11_isPlate rfl rfl rfl (by decide +kernel) ⟨Nat.le_of_ble_eq_true rfl, Nat.le_of_ble_eq_true rfl⟩) hK hT hS k0 (by decide) rfl rfl hl.1 rfl (Nat.le_of_ble_eq_true rfl) dX11_peel_2 ⟨Nat.zero_le _, Nat.zero_le _⟩ (fun x1 u2 H locs hpu2 hT hS => ?_)
    obtain ⟨huu2, qu2⟩ := hpu2
    rw [huu2] at hT
    refine tb_if_ne (tgt := 10) hx hb dX11_peel_5 (by decide) (fun c3 => ?_) (fun c3 => ?_)
    · skip
      refine lv_aload_n hx hb dX11_peel_10 rfl (lv_at hl 0 rfl) ?_
      refine gf_11_13 hx hb hts hin11 hown hK hT k0 hfl35 dX11_peel_11 (fun a4 ka4 fva4 => ?_)
      refine lv_iload_n hx hb dX11_peel_14 rfl (lv_at hl 1 rfl) ?_
      refine tw_ia (K := 50) (n := 5) (P := fun x => x = G.1 (100 + p1.toInt.toNat) ∧ (0 ≤ x.toInt ∧ x.toInt ≤ 12) ∧ ((G.1 3).toInt = 0 → x.toInt = 0)) hx hb hK hT ka4 (by decide) rfl rfl (by omega) rfl dX11_peel_15 (fun x5 kx5 fvx5 => ?_)
      have kx5 : x5 = G.1 (100 + p1.toInt.toNat) ∧ (0 ≤ x5.toInt ∧ x5.toInt ≤ 12) ∧ ((G.1 3).toInt = 0 → x5.toInt = 0) := kx5
      have gx5 := congrArg Int32.toInt kx5.1
      have rx5 := kx5.2
      refine tb_if_ne (tgt := 22) hx hb dX11_peel_16 (by decide) (fun c6 => ?_) (fun c6 => ?_)
      · skip
        refine lv_aload_n hx hb dX11_peel_22 rfl (lv_at hl 0 rfl) ?_
        refine gf_11_13 hx hb hts hin11 hown hK hT k0 hfl35 dX11_peel_23 (fun a7 ka7 fva7 => ?_)
        obtain rfl : a4 = a7 := eRef (FV.eq fva4 fva7)
        refine lv_iload_n hx hb dX11_peel_26 rfl (lv_at hl 1 rfl) ?_
        refine lv_dup2_11 hx hb dX11_peel_27 rfl rfl ?_
        refine tw_ia (K := 50) (n := 5) (P := fun x => x = G.1 (100 + p1.toInt.toNat) ∧ (0 ≤ x.toInt ∧ x.toInt ≤ 12) ∧ ((G.1 3).toInt = 0 → x.toInt = 0)) hx hb hK hT ka4 (by decide) rfl rfl (by omega) rfl dX11_peel_28 (fun x8 kx8 fvx8 => ?_)
        have kx8 : x8 = G.1 (100 + p1.toInt.toNat) ∧ (0 ≤ x8.toInt ∧ x8.toInt ≤ 12) ∧ ((G.1 3).toInt = 0 → x8.toInt = 0) := kx8
        have gx8 := congrArg Int32.toInt kx8.1
        have rx8 := kx8.2
        obtain rfl : x5 = x8 := eInt (AV.eq fvx5 fvx8)
        refine lv_iconst (v := (1 : Int32)) hx hb dX11_peel_29 (by decide) ?_
        refine lv_isub hx hb dX11_peel_30 ?_
        refine lv_topi (fun x9 ex9 => ?_)
        have tx9 : x9.toInt = x5.toInt - (1 : Int32).toInt := by rw [ex9]; exact ti_sub (by have := i32b x5; have := i32b (1 : Int32); omega)
        refine ag_50 hx hb hK hT hS ka4 (by omega) dX11_peel_31 (by omega) (fun H locs hT hS => ?_)
        obtain ⟨u10, eu10⟩ : ∃ u : Gh, u = cG G (100 + p1.toInt.toNat) x9 := ⟨_, rfl⟩
        rw [← eu10] at hT
        have au10 : (u10.1 (100 + p1.toInt.toNat)).toInt = x9.toInt := by rw [eu10, cG_at]
        have bu10 : ∀ j, j ≠ 100 + p1.toInt.toNat → u10.1 j = G.1 j := fun j hj => by rw [eu10]; exact if_neg hj
        have du10 : u10.2 = G.2 := by rw [eu10]; rfl
        refine lv_aload_n hx hb dX11_peel_32 rfl (lv_at hl 0 rfl) ?_
        refine gf_11_13 hx hb hts hin11 hown hK hT k0 hfl35 dX11_peel_33 (fun a11 ka11 fva11 => ?_)
        refine lv_iload_n hx hb dX11_peel_36 rfl (lv_at hl 1 rfl) ?_
        refine tw_ia (K := 50) (n := 5) (P := fun x => x = u10.1 (100 + p1.toInt.toNat) ∧ (0 ≤ x.toInt ∧ x.toInt ≤ 12) ∧ ((u10.1 3).toInt = 0 → x.toInt = 0)) hx hb hK hT ka11 (by decide) rfl rfl (by omega) rfl dX11_peel_37 (fun x12 kx12 fvx12 => ?_)
        have kx12 : x12 = u10.1 (100 + p1.toInt.toNat) ∧ (0 ≤ x12.toInt ∧ x12.toInt ≤ 12) ∧ ((u10.1 3).toInt = 0 → x12.toInt = 0) := kx12
        have gx12 := congrArg Int32.toInt kx12.1
        have rx12 := kx12.2
        have zz13 : (u10.1 (3)).toInt = (G.1 (3)).toInt := congrArg Int32.toInt (bu10 (3) (by omega))
        exact hret H locs ls 38 x12 u10 dX11_peel_38 ⟨(cntG.up bu10 du10 (by omega) (cntG.rf G)), trivial⟩ hT hS
      · skip
        refine lv_bipush (v := (-3 : Int32)) hx hb dX11_peel_19 (by decide) ?_
        exact hret H locs ls 21 (-3 : Int32) G dX11_peel_21 ⟨(cntG.rf G), trivial⟩ hT hS
    · skip
      refine lv_iconst (v := (-1 : Int32)) hx hb dX11_peel_8 (by decide) ?_
      exact hret H locs ls 9 (-1 : Int32) G dX11_peel_9 ⟨(cntG.rf G), trivial⟩ hT hS
  exact main s.heap [] hT va_S.rf

abbrev rmX11_hurt : Room := { frames := 3, cells := 0, slots := 0, locals := 65 }
set_option maxHeartbeats 4000000 in
set_option maxRecDepth 100000 in
theorem c_X11_hurt (l : Launch) (D : va_G) (cy : Nat → ClassId) (κ : Nat → Nat) (G : Gh) (p0 : Nat) (k0 : κ p0 = 12) (p1 : Int32) (p2 : Int32) (p3 : Int32) : Met l yX11_hurt wsX11_hurt rmX11_hurt (va_Pc [.ref p0, .int p1, .int p2, .int p3] (fun U => WW D cy κ G U)) (va_Qi (fun (r : Int32) (u : Gh) => cntG u G ∧ (True)) (fun u t => WW D cy κ u t) (AA κ)) 0 0 (AA κ) := by
  refine Met.twi (cc := cX11_hurt) (maxL := 5) (by decide) rfl (Nat.le_of_ble_eq_true rfl) ?_
  intro p e s m args below meth c Q hx hb hml hown hts hK hT hret ls hl
  have hl : lv_has ls 5 [(0, .ref p0), (1, .int p1), (2, .int p2), (3, .int p3)] := hl
  have hc0 : (0 : Int32).toInt = 0 := rfl
  have hc2 : (2 : Int32).toInt = 2 := rfl
  have hfl47 := hts (.fieldLink RX11 47 "PlyPlatesModel" "broken" "[I") (by decide +kernel)
  have hin11 : ∀ w ∈ u_ws RX11 TX11 31, w ∈ wsX11_hurt := by decide +kernel
  have hcm2 : (-2 : Int32).toInt = -2 := rfl
  have hcm1 : (-1 : Int32).toInt = -1 := rfl
  have main : ∀ (H : Heap) (locs : List Loc), TW D cy κ G H → va_S (AA κ) s.heap H locs → W p l e rmX11_hurt s m args below meth c H locs 0 0 Q (F0 m 0 ls []) := by
    intro H locs hT hS
    refine lv_aload_n hx hb dX11_hurt_0 rfl (lv_at hl 0 rfl) ?_
    refine lv_iload_n hx hb dX11_hurt_1 rfl (lv_at hl 1 rfl) ?_
    refine lv_iload_n hx hb dX11_hurt_2 rfl (lv_at hl 2 rfl) ?_
    refine tw_Vi (q := (RX11, TX11, 31)) (As := [.int p1, .int p2]) (rest := []) ⟨hx, hb, hml, hown, hts⟩ (c_X11_isLayer l D cy κ G p0 k0 p1 p2) (cwV 2 hts gX11_hurt_X11_isLayer rfl rfl rfl (by decide +kernel) ⟨Nat.le_of_ble_eq_true rfl, Nat.le_of_ble_eq_true rfl⟩) hK hT hS k0 (by decide) rfl rfl hl.1 rfl (Nat.le_of_ble_eq_true rfl) dX11_hurt_3 ⟨Nat.zero_le _, Nat.zero_le _⟩ (fun x1 u2 H locs hpu2 hT hS => ?_)
    obtain ⟨huu2, qu2⟩ := hpu2
    rw [huu2] at hT
    refine tb_if_ne (tgt := 11) hx hb dX11_hurt_6 (by decide) (fun c3 => ?_) (fun c3 => ?_)
    · skip
      refine lv_iload_n hx hb dX11_hurt_11 rfl (lv_at hl 3 rfl) ?_
      refine lv_iconst (v := (0 : Int32)) hx hb dX11_hurt_12 (by decide) ?_
      refine lv_iconst (v := (2 : Int32)) hx hb dX11_hurt_13 (by decide) ?_
      refine tw_Si (As := [.int p3, .int (0 : Int32), .int (2 : Int32)]) (rest := []) ⟨hx, hb, hml, hown, hts⟩ (c_X11_isIn l D cy κ G p3 (0 : Int32) (2 : Int32)) (va_cwS 3 hts gX11_hurt_X11_isIn rfl rfl rfl (by decide +kernel) ⟨Nat.le_of_ble_eq_true rfl, Nat.le_of_ble_eq_true rfl⟩) hK hT hS rfl hl.1 rfl (Nat.le_of_ble_eq_true rfl) dX11_hurt_14 ⟨Nat.zero_le _, Nat.zero_le _⟩ (fun x4 u5 H locs hpu5 hT hS => ?_)
      obtain ⟨huu5, qu5⟩ := hpu5
      rw [huu5] at hT
      refine tb_if_ne (tgt := 23) hx hb dX11_hurt_17 (by decide) (fun c6 => ?_) (fun c6 => ?_)
      · skip
        refine lv_aload_n hx hb dX11_hurt_23 rfl (lv_at hl 0 rfl) ?_
        refine gf_11_17 hx hb hts hin11 hown hK hT k0 hfl47 dX11_hurt_24 (fun a7 ka7 fva7 => ?_)
        refine lv_iload_n hx hb dX11_hurt_27 rfl (lv_at hl 1 rfl) ?_
        refine lv_iload_n hx hb dX11_hurt_28 rfl (lv_at hl 2 rfl) ?_
        refine tw_Si (As := [.int p1, .int p2]) (rest := [.ref a7]) ⟨hx, hb, hml, hown, hts⟩ (c_X11_spot l D cy κ G p1 (by omega) p2 (by omega)) (va_cwS 2 hts gX11_hurt_X11_spot rfl rfl rfl (by decide +kernel) ⟨Nat.le_of_ble_eq_true rfl, Nat.le_of_ble_eq_true rfl⟩) hK hT hS rfl hl.1 rfl (Nat.le_of_ble_eq_true rfl) dX11_hurt_29 ⟨Nat.zero_le _, Nat.zero_le _⟩ (fun x8 u9 H locs hpu9 hT hS => ?_)
        obtain ⟨huu9, qu9⟩ := hpu9
        rw [huu9] at hT
        refine tw_ia (K := 52) (n := 60) (P := fun x => x = G.1 (200 + x8.toInt.toNat) ∧ (0 ≤ x.toInt ∧ x.toInt ≤ 2)) hx hb hK hT ka7 (by decide) rfl rfl (by omega) rfl dX11_hurt_32 (fun x10 kx10 fvx10 => ?_)
        have kx10 : x10 = G.1 (200 + x8.toInt.toNat) ∧ (0 ≤ x10.toInt ∧ x10.toInt ≤ 2) := kx10
        have gx10 := congrArg Int32.toInt kx10.1
        have rx10 := kx10.2
        refine lv_istore (lv' := [(4, .int x10), (0, .ref p0), (1, .int p1), (2, .int p2), (3, .int p3)]) hx hb dX11_hurt_33 hl (by decide) rfl (fun ls hl => ?_)
        refine lv_aload_n hx hb dX11_hurt_35 rfl (lv_at hl 1 rfl) ?_
        refine gf_11_17 hx hb hts hin11 hown hK hT k0 hfl47 dX11_hurt_36 (fun a11 ka11 fva11 => ?_)
        refine lv_iload_n hx hb dX11_hurt_39 rfl (lv_at hl 2 rfl) ?_
        refine lv_iload_n hx hb dX11_hurt_40 rfl (lv_at hl 3 rfl) ?_
        refine tw_Si (As := [.int p1, .int p2]) (rest := [.ref a11]) ⟨hx, hb, hml, hown, hts⟩ (c_X11_spot l D cy κ G p1 (by omega) p2 (by omega)) (va_cwS 2 hts gX11_hurt_X11_spot rfl rfl rfl (by decide +kernel) ⟨Nat.le_of_ble_eq_true rfl, Nat.le_of_ble_eq_true rfl⟩) hK hT hS rfl hl.1 rfl (Nat.le_of_ble_eq_true rfl) dX11_hurt_41 ⟨Nat.zero_le _, Nat.zero_le _⟩ (fun x12 u13 H locs hpu13 hT hS => ?_)
        obtain ⟨huu13, qu13⟩ := hpu13
        rw [huu13] at hT
        refine lv_iload_n hx hb dX11_hurt_44 rfl (lv_at hl 4 rfl) ?_
        refine ag_52 hx hb hK hT hS ka11 (by omega) dX11_hurt_45 (by omega) (fun H locs hT hS => ?_)
        obtain ⟨u14, eu14⟩ : ∃ u : Gh, u = cG G (200 + x12.toInt.toNat) p3 := ⟨_, rfl⟩
        rw [← eu14] at hT
        have au14 : (u14.1 (200 + x12.toInt.toNat)).toInt = p3.toInt := by rw [eu14, cG_at]
        have bu14 : ∀ j, j ≠ 200 + x12.toInt.toNat → u14.1 j = G.1 j := fun j hj => by rw [eu14]; exact if_neg hj
        have du14 : u14.2 = G.2 := by rw [eu14]; rfl
        refine lv_iload hx hb dX11_hurt_46 (lv_at hl 0 rfl) ?_
        exact hret H locs ls 48 x10 u14 dX11_hurt_48 ⟨(cntG.up bu14 du14 (by omega) (cntG.rf G)), trivial⟩ hT hS
      · skip
        refine lv_bipush (v := (-2 : Int32)) hx hb dX11_hurt_20 (by decide) ?_
        exact hret H locs ls 22 (-2 : Int32) G dX11_hurt_22 ⟨(cntG.rf G), trivial⟩ hT hS
    · skip
      refine lv_iconst (v := (-1 : Int32)) hx hb dX11_hurt_9 (by decide) ?_
      exact hret H locs ls 10 (-1 : Int32) G dX11_hurt_10 ⟨(cntG.rf G), trivial⟩ hT hS
  exact main s.heap [] hT va_S.rf

abbrev rmX11_load : Room := { frames := 2, cells := 0, slots := 0, locals := 44 }
set_option maxHeartbeats 4000000 in
set_option maxRecDepth 100000 in
theorem c_X11_load (l : Launch) (D : va_G) (cy : Nat → ClassId) (κ : Nat → Nat) (G : Gh) (p0 : Nat) (k0 : κ p0 = 12) (p1 : Int32) (p2 : Int32) (p3 : Int32) : Met l yX11_load wsX11_load rmX11_load (va_Pc [.ref p0, .int p1, .int p2, .int p3] (fun U => WW D cy κ G U)) (va_Qi (fun (r : Int32) (u : Gh) => (u = G ∧ r.toInt = -2 ∧ (p1.toInt < -100 ∨ 100 < p1.toInt ∨ p2.toInt < -100 ∨ 100 < p2.toInt ∨ p3.toInt < -100 ∨ 100 < p3.toInt)) ∨ (u = G ∧ r.toInt = -4 ∧ (-100 ≤ p1.toInt ∧ p1.toInt ≤ 100 ∧ -100 ≤ p2.toInt ∧ p2.toInt ≤ 100 ∧ -100 ≤ p3.toInt ∧ p3.toInt ≤ 100) ∧ 4 ≤ (G.1 5).toInt) ∨ ((-100 ≤ p1.toInt ∧ p1.toInt ≤ 100 ∧ -100 ≤ p2.toInt ∧ p2.toInt ≤ 100 ∧ -100 ≤ p3.toInt ∧ p3.toInt ≤ 100) ∧ (G.1 5).toInt < 4 ∧ r.toInt = (G.1 5).toInt ∧ (u.1 5).toInt = (G.1 5).toInt + 1 ∧ ∀ i, i < 6 → i ≠ 5 → u.1 i = G.1 i)) (fun u t => WW D cy κ u t) (AA κ)) 0 0 (AA κ) := by
  refine Met.twi (cc := cX11_load) (maxL := 4) (by decide) rfl (Nat.le_of_ble_eq_true rfl) ?_
  intro p e s m args below meth c Q hx hb hml hown hts hK hT hret ls hl
  have hl : lv_has ls 4 [(0, .ref p0), (1, .int p1), (2, .int p2), (3, .int p3)] := hl
  have hfl206 := hts (.fieldLink RX11 206 "PlyPlatesModel" "cases" "I") (by decide +kernel)
  have hin11 : ∀ w ∈ u_ws RX11 TX11 31, w ∈ wsX11_load := by decide +kernel
  have hc4 : (4 : Int32).toInt = 4 := rfl
  have hfl50 := hts (.fieldLink RX11 50 "PlyPlatesModel" "caseX" "[I") (by decide +kernel)
  have hfl53 := hts (.fieldLink RX11 53 "PlyPlatesModel" "caseY" "[I") (by decide +kernel)
  have hfl56 := hts (.fieldLink RX11 56 "PlyPlatesModel" "caseS" "[I") (by decide +kernel)
  have hc1 : (1 : Int32).toInt = 1 := rfl
  have hcm4 : (-4 : Int32).toInt = -4 := rfl
  have hcm2 : (-2 : Int32).toInt = -2 := rfl
  have main : ∀ (H : Heap) (locs : List Loc), TW D cy κ G H → va_S (AA κ) s.heap H locs → W p l e rmX11_load s m args below meth c H locs 0 0 Q (F0 m 0 ls []) := by
    intro H locs hT hS
    refine lv_iload_n hx hb dX11_load_0 rfl (lv_at hl 1 rfl) ?_
    refine lv_iload_n hx hb dX11_load_1 rfl (lv_at hl 2 rfl) ?_
    refine lv_iload_n hx hb dX11_load_2 rfl (lv_at hl 3 rfl) ?_
    refine tw_Si (As := [.int p1, .int p2, .int p3]) (rest := []) ⟨hx, hb, hml, hown, hts⟩ (c_X11_isLoad l D cy κ G p1 p2 p3) (va_cwS 3 hts gX11_load_X11_isLoad rfl rfl rfl (by decide +kernel) ⟨Nat.le_of_ble_eq_true rfl, Nat.le_of_ble_eq_true rfl⟩) hK hT hS rfl hl.1 rfl (Nat.le_of_ble_eq_true rfl) dX11_load_3 ⟨Nat.zero_le _, Nat.zero_le _⟩ (fun x1 u2 H locs hpu2 hT hS => ?_)
    obtain ⟨huu2, qu2⟩ := hpu2
    rw [huu2] at hT
    refine tb_if_ne (tgt := 12) hx hb dX11_load_6 (by decide) (fun c3 => ?_) (fun c3 => ?_)
    · skip
      refine lv_aload_n hx hb dX11_load_12 rfl (lv_at hl 0 rfl) ?_
      refine gf_11_2 hx hb hts hin11 hown hK hT k0 hfl206 dX11_load_13 (fun x4 kx4 fvx4 => ?_)
      have gx4 := congrArg Int32.toInt kx4.1
      refine lv_iconst (v := (4 : Int32)) hx hb dX11_load_16 (by decide) ?_
      refine tb_icmp_ne (tgt := 23) hx hb dX11_load_17 (by decide) (fun c5 => ?_) (fun c5 => ?_)
      · skip
        refine lv_aload_n hx hb dX11_load_23 rfl (lv_at hl 0 rfl) ?_
        refine gf_11_18 hx hb hts hin11 hown hK hT k0 hfl50 dX11_load_24 (fun a6 ka6 fva6 => ?_)
        refine lv_aload_n hx hb dX11_load_27 rfl (lv_at hl 0 rfl) ?_
        refine gf_11_2 hx hb hts hin11 hown hK hT k0 hfl206 dX11_load_28 (fun x7 kx7 fvx7 => ?_)
        have gx7 := congrArg Int32.toInt kx7.1
        obtain rfl : x4 = x7 := eInt (FV.eq fvx4 fvx7)
        refine lv_iload_n hx hb dX11_load_31 rfl (lv_at hl 1 rfl) ?_
        refine tw_ias (K := 1004) (n := 4) (P := fun _ => True) hx hb hK hT hS ka6 (by decide) rfl rfl (by omega) rfl trivial dX11_load_32 (fun H locs hT hS hq => ?_)
        refine lv_aload_n hx hb dX11_load_33 rfl (lv_at hl 0 rfl) ?_
        refine gf_11_19 hx hb hts hin11 hown hK hT k0 hfl53 dX11_load_34 (fun a8 ka8 fva8 => ?_)
        refine lv_aload_n hx hb dX11_load_37 rfl (lv_at hl 0 rfl) ?_
        refine gf_11_2 hx hb hts hin11 hown hK hT k0 hfl206 dX11_load_38 (fun x9 kx9 fvx9 => ?_)
        have gx9 := congrArg Int32.toInt kx9.1
        refine lv_iload_n hx hb dX11_load_41 rfl (lv_at hl 2 rfl) ?_
        refine tw_ias (K := 1004) (n := 4) (P := fun _ => True) hx hb hK hT hS ka8 (by decide) rfl rfl (by omega) rfl trivial dX11_load_42 (fun H locs hT hS hq => ?_)
        refine lv_aload_n hx hb dX11_load_43 rfl (lv_at hl 0 rfl) ?_
        refine gf_11_20 hx hb hts hin11 hown hK hT k0 hfl56 dX11_load_44 (fun a10 ka10 fva10 => ?_)
        refine lv_aload_n hx hb dX11_load_47 rfl (lv_at hl 0 rfl) ?_
        refine gf_11_2 hx hb hts hin11 hown hK hT k0 hfl206 dX11_load_48 (fun x11 kx11 fvx11 => ?_)
        have gx11 := congrArg Int32.toInt kx11.1
        refine lv_iload_n hx hb dX11_load_51 rfl (lv_at hl 3 rfl) ?_
        refine tw_ias (K := 1004) (n := 4) (P := fun _ => True) hx hb hK hT hS ka10 (by decide) rfl rfl (by omega) rfl trivial dX11_load_52 (fun H locs hT hS hq => ?_)
        refine lv_aload_n hx hb dX11_load_53 rfl (lv_at hl 0 rfl) ?_
        refine lv_dup hx hb dX11_load_54 rfl ?_
        refine gf_11_2 hx hb hts hin11 hown hK hT k0 hfl206 dX11_load_55 (fun x12 kx12 fvx12 => ?_)
        have gx12 := congrArg Int32.toInt kx12.1
        refine lv_iconst (v := (1 : Int32)) hx hb dX11_load_58 (by decide) ?_
        refine lv_iadd hx hb dX11_load_59 ?_
        refine lv_topi (fun x13 ex13 => ?_)
        have tx13 : x13.toInt = x12.toInt + (1 : Int32).toInt := by rw [ex13]; exact ti_add (by have := i32b x12; have := i32b (1 : Int32); omega)
        refine pc_11_2 hx hb hts hin11 hown hK hT hS k0 hfl206 dX11_load_60 (by omega) (fun H locs hT hS => ?_)
        obtain ⟨u14, eu14⟩ : ∃ u : Gh, u = cG G (5) x13 := ⟨_, rfl⟩
        rw [← eu14] at hT
        have au14 : (u14.1 (5)).toInt = x13.toInt := by rw [eu14, cG_at]
        have bu14 : ∀ j, j ≠ 5 → u14.1 j = G.1 j := fun j hj => by rw [eu14]; exact if_neg hj
        have du14 : u14.2 = G.2 := by rw [eu14]; rfl
        refine lv_aload_n hx hb dX11_load_63 rfl (lv_at hl 0 rfl) ?_
        refine gf_11_2 hx hb hts hin11 hown hK hT k0 hfl206 dX11_load_64 (fun x15 kx15 fvx15 => ?_)
        have gx15 := congrArg Int32.toInt kx15.1
        refine lv_iconst (v := (1 : Int32)) hx hb dX11_load_67 (by decide) ?_
        refine lv_isub hx hb dX11_load_68 ?_
        refine lv_topi (fun x16 ex16 => ?_)
        have tx16 : x16.toInt = x15.toInt - (1 : Int32).toInt := by rw [ex16]; exact ti_sub (by have := i32b x15; have := i32b (1 : Int32); omega)
        exact hret H locs ls 69 x16 u14 dX11_load_69 (Or.inr (Or.inr ⟨by omega, by omega, by omega, by omega, fun i h1 h2 => bu14 i (by omega)⟩)) hT hS
      · skip
        refine lv_bipush (v := (-4 : Int32)) hx hb dX11_load_20 (by decide) ?_
        exact hret H locs ls 22 (-4 : Int32) G dX11_load_22 (by first | exact Or.inl ⟨rfl, by omega, by omega⟩ | exact Or.inr (Or.inl ⟨rfl, by omega, by omega, by omega⟩)) hT hS
    · skip
      refine lv_bipush (v := (-2 : Int32)) hx hb dX11_load_9 (by decide) ?_
      exact hret H locs ls 11 (-2 : Int32) G dX11_load_11 (by first | exact Or.inl ⟨rfl, by omega, by omega⟩ | exact Or.inr (Or.inl ⟨rfl, by omega, by omega, by omega⟩)) hT hS
  exact main s.heap [] hT va_S.rf

abbrev rmX11_unload : Room := { frames := 0, cells := 0, slots := 0, locals := 0 }
set_option maxHeartbeats 4000000 in
set_option maxRecDepth 100000 in
theorem c_X11_unload (l : Launch) (D : va_G) (cy : Nat → ClassId) (κ : Nat → Nat) (G : Gh) (p0 : Nat) (k0 : κ p0 = 12) : Met l yX11_unload wsX11_unload rmX11_unload (va_Pc [.ref p0] (fun U => WW D cy κ G U)) (va_Qi (fun (r : Int32) (u : Gh) => r.toInt = (G.1 5).toInt ∧ (u.1 5).toInt = 0 ∧ ∀ i, i < 6 → i ≠ 5 → u.1 i = G.1 i) (fun u t => WW D cy κ u t) (AA κ)) 0 0 (AA κ) := by
  refine Met.twi (cc := cX11_unload) (maxL := 2) (by decide) rfl (Nat.le_of_ble_eq_true rfl) ?_
  intro p e s m args below meth c Q hx hb hml hown hts hK hT hret ls hl
  have hl : lv_has ls 2 [(0, .ref p0)] := hl
  have hfl206 := hts (.fieldLink RX11 206 "PlyPlatesModel" "cases" "I") (by decide +kernel)
  have hin11 : ∀ w ∈ u_ws RX11 TX11 31, w ∈ wsX11_unload := by decide +kernel
  have hc0 : (0 : Int32).toInt = 0 := rfl
  have main : ∀ (H : Heap) (locs : List Loc), TW D cy κ G H → va_S (AA κ) s.heap H locs → W p l e rmX11_unload s m args below meth c H locs 0 0 Q (F0 m 0 ls []) := by
    intro H locs hT hS
    refine lv_aload_n hx hb dX11_unload_0 rfl (lv_at hl 0 rfl) ?_
    refine gf_11_2 hx hb hts hin11 hown hK hT k0 hfl206 dX11_unload_1 (fun x1 kx1 fvx1 => ?_)
    have gx1 := congrArg Int32.toInt kx1.1
    refine lv_istore_n (lv' := [(1, .int x1), (0, .ref p0)]) hx hb dX11_unload_4 rfl hl (by decide) rfl (fun ls hl => ?_)
    refine lv_aload_n hx hb dX11_unload_5 rfl (lv_at hl 1 rfl) ?_
    refine lv_iconst (v := (0 : Int32)) hx hb dX11_unload_6 (by decide) ?_
    refine pc_11_2 hx hb hts hin11 hown hK hT hS k0 hfl206 dX11_unload_7 (by omega) (fun H locs hT hS => ?_)
    obtain ⟨u2, eu2⟩ : ∃ u : Gh, u = cG G (5) (0 : Int32) := ⟨_, rfl⟩
    rw [← eu2] at hT
    have au2 : (u2.1 (5)).toInt = (0 : Int32).toInt := by rw [eu2, cG_at]
    have bu2 : ∀ j, j ≠ 5 → u2.1 j = G.1 j := fun j hj => by rw [eu2]; exact if_neg hj
    have du2 : u2.2 = G.2 := by rw [eu2]; rfl
    refine lv_iload_n hx hb dX11_unload_10 rfl (lv_at hl 0 rfl) ?_
    exact hret H locs ls 11 x1 u2 dX11_unload_11 ⟨by omega, by omega, fun i h1 h2 => bu2 i (by omega)⟩ hT hS
  exact main s.heap [] hT va_S.rf

abbrev rmX11_plate : Room := { frames := 0, cells := 0, slots := 0, locals := 0 }
set_option maxHeartbeats 4000000 in
set_option maxRecDepth 100000 in
theorem c_X11_plate (l : Launch) (D : va_G) (cy : Nat → ClassId) (κ : Nat → Nat) (G : Gh) (p0 : Nat) (k0 : κ p0 = 12) : Met l yX11_plate wsX11_plate rmX11_plate (va_Pc [.ref p0] (fun U => WW D cy κ G U)) (va_Qi (fun (r : Int32) (u : Gh) => (u = G ∧ r.toInt = -4 ∧ 4 ≤ (G.1 4).toInt) ∨ ((G.1 4).toInt < 4 ∧ r.toInt = (G.1 4).toInt ∧ (u.1 4).toInt = (G.1 4).toInt + 1 ∧ ∀ i, i < 6 → i ≠ 4 → u.1 i = G.1 i)) (fun u t => WW D cy κ u t) (AA κ)) 0 0 (AA κ) := by
  refine Met.twi (cc := cX11_plate) (maxL := 1) (by decide) rfl (Nat.le_of_ble_eq_true rfl) ?_
  intro p e s m args below meth c Q hx hb hml hown hts hK hT hret ls hl
  have hl : lv_has ls 1 [(0, .ref p0)] := hl
  have hfl76 := hts (.fieldLink RX11 76 "PlyPlatesModel" "plates" "I") (by decide +kernel)
  have hin11 : ∀ w ∈ u_ws RX11 TX11 31, w ∈ wsX11_plate := by decide +kernel
  have hc4 : (4 : Int32).toInt = 4 := rfl
  have hfl35 := hts (.fieldLink RX11 35 "PlyPlatesModel" "many" "[I") (by decide +kernel)
  have hc0 : (0 : Int32).toInt = 0 := rfl
  have hc1 : (1 : Int32).toInt = 1 := rfl
  have hcm4 : (-4 : Int32).toInt = -4 := rfl
  have main : ∀ (H : Heap) (locs : List Loc), TW D cy κ G H → va_S (AA κ) s.heap H locs → W p l e rmX11_plate s m args below meth c H locs 0 0 Q (F0 m 0 ls []) := by
    intro H locs hT hS
    refine lv_aload_n hx hb dX11_plate_0 rfl (lv_at hl 0 rfl) ?_
    refine gf_11_1 hx hb hts hin11 hown hK hT k0 hfl76 dX11_plate_1 (fun x1 kx1 fvx1 => ?_)
    have gx1 := congrArg Int32.toInt kx1.1
    refine lv_iconst (v := (4 : Int32)) hx hb dX11_plate_4 (by decide) ?_
    refine tb_icmp_ne (tgt := 11) hx hb dX11_plate_5 (by decide) (fun c2 => ?_) (fun c2 => ?_)
    · skip
      refine lv_aload_n hx hb dX11_plate_11 rfl (lv_at hl 0 rfl) ?_
      refine gf_11_13 hx hb hts hin11 hown hK hT k0 hfl35 dX11_plate_12 (fun a3 ka3 fva3 => ?_)
      refine lv_aload_n hx hb dX11_plate_15 rfl (lv_at hl 0 rfl) ?_
      refine gf_11_1 hx hb hts hin11 hown hK hT k0 hfl76 dX11_plate_16 (fun x4 kx4 fvx4 => ?_)
      have gx4 := congrArg Int32.toInt kx4.1
      obtain rfl : x1 = x4 := eInt (FV.eq fvx1 fvx4)
      refine lv_iconst (v := (0 : Int32)) hx hb dX11_plate_19 (by decide) ?_
      refine ag_50 hx hb hK hT hS ka3 (by omega) dX11_plate_20 (by omega) (fun H locs hT hS => ?_)
      obtain ⟨u5, eu5⟩ : ∃ u : Gh, u = cG G (100 + x1.toInt.toNat) (0 : Int32) := ⟨_, rfl⟩
      rw [← eu5] at hT
      have au5 : (u5.1 (100 + x1.toInt.toNat)).toInt = (0 : Int32).toInt := by rw [eu5, cG_at]
      have bu5 : ∀ j, j ≠ 100 + x1.toInt.toNat → u5.1 j = G.1 j := fun j hj => by rw [eu5]; exact if_neg hj
      have du5 : u5.2 = G.2 := by rw [eu5]; rfl
      refine lv_aload_n hx hb dX11_plate_21 rfl (lv_at hl 0 rfl) ?_
      refine lv_dup hx hb dX11_plate_22 rfl ?_
      refine gf_11_1 hx hb hts hin11 hown hK hT k0 hfl76 dX11_plate_23 (fun x6 kx6 fvx6 => ?_)
      have gx6 := congrArg Int32.toInt kx6.1
      have zz7 : (u5.1 (4)).toInt = (G.1 (4)).toInt := congrArg Int32.toInt (bu5 (4) (by omega))
      refine lv_iconst (v := (1 : Int32)) hx hb dX11_plate_26 (by decide) ?_
      refine lv_iadd hx hb dX11_plate_27 ?_
      refine lv_topi (fun x8 ex8 => ?_)
      have tx8 : x8.toInt = x6.toInt + (1 : Int32).toInt := by rw [ex8]; exact ti_add (by have := i32b x6; have := i32b (1 : Int32); omega)
      refine pc_11_1 hx hb hts hin11 hown hK hT hS k0 hfl76 dX11_plate_28 (by omega) (fun H locs hT hS => ?_)
      obtain ⟨u9, eu9⟩ : ∃ u : Gh, u = cG u5 (4) x8 := ⟨_, rfl⟩
      rw [← eu9] at hT
      have au9 : (u9.1 (4)).toInt = x8.toInt := by rw [eu9, cG_at]
      have bu9 : ∀ j, j ≠ 4 → u9.1 j = u5.1 j := fun j hj => by rw [eu9]; exact if_neg hj
      have du9 : u9.2 = u5.2 := by rw [eu9]; rfl
      refine lv_aload_n hx hb dX11_plate_31 rfl (lv_at hl 0 rfl) ?_
      refine gf_11_1 hx hb hts hin11 hown hK hT k0 hfl76 dX11_plate_32 (fun x10 kx10 fvx10 => ?_)
      have gx10 := congrArg Int32.toInt kx10.1
      refine lv_iconst (v := (1 : Int32)) hx hb dX11_plate_35 (by decide) ?_
      refine lv_isub hx hb dX11_plate_36 ?_
      refine lv_topi (fun x11 ex11 => ?_)
      have tx11 : x11.toInt = x10.toInt - (1 : Int32).toInt := by rw [ex11]; exact ti_sub (by have := i32b x10; have := i32b (1 : Int32); omega)
      exact hret H locs ls 37 x11 u9 dX11_plate_37 (Or.inr ⟨by omega, by omega, by omega, fun i h1 h2 => (bu9 i (by omega)).trans (bu5 i (by omega))⟩) hT hS
    · skip
      refine lv_bipush (v := (-4 : Int32)) hx hb dX11_plate_8 (by decide) ?_
      exact hret H locs ls 10 (-4 : Int32) G dX11_plate_10 (Or.inl ⟨rfl, by omega, by omega⟩) hT hS
  exact main s.heap [] hT va_S.rf
