abbrev rmX11_fewest : Room := { frames := 6, cells := 0, slots := 0, locals := 177 }
set_option maxHeartbeats 4000000 in
set_option maxRecDepth 100000 in
theorem c_X11_fewest (l : Launch) (D : va_G) (cy : Nat → ClassId) (κ : Nat → Nat) (G : Gh) (p0 : Nat) (k0 : κ p0 = 12) (p1 : Int32) (p2 : Int32) : Met l yX11_fewest wsX11_fewest rmX11_fewest (va_Pc [.ref p0, .int p1, .int p2] (fun U => WW D cy κ G U)) (va_Qi (fun (r : Int32) (u : Gh) => cntG u G ∧ (True)) (fun u t => WW D cy κ u t) (AA κ)) 0 0 (AA κ) := by
  refine Met.twi (cc := cX11_fewest) (maxL := 7) (by decide) rfl (Nat.le_of_ble_eq_true rfl) ?_
  intro p e s m args below meth c Q hx hb hml hown hts hK hT hret ls hl
  have hl : lv_has ls 7 [(0, .ref p0), (1, .int p1), (2, .int p2)] := hl
  have hcm1 : (-1 : Int32).toInt = -1 := rfl
  have hc1 : (1 : Int32).toInt = 1 := rfl
  have hc6 : (6 : Int32).toInt = 6 := rfl
  have hcm3 : (-3 : Int32).toInt = -3 := rfl
  have hc0 : (0 : Int32).toInt = 0 := rfl
  have hc2 : (2 : Int32).toInt = 2 := rfl
  have hfl35 := hts (.fieldLink RX11 35 "PlyPlatesModel" "many" "[I") (by decide +kernel)
  have hin11 : ∀ w ∈ u_ws RX11 TX11 31, w ∈ wsX11_fewest := by decide +kernel
  have hc4 : (4 : Int32).toInt = 4 := rfl
  have hc3 : (3 : Int32).toInt = 3 := rfl
  have main : ∀ (H : Heap) (locs : List Loc), TW D cy κ G H → va_S (AA κ) s.heap H locs → W p l e rmX11_fewest s m args below meth c H locs 0 0 Q (F0 m 0 ls []) := by
    intro H locs hT hS
    have hk9 := TW.k9 hT k0
    refine lv_aload_n hx hb dX11_fewest_0 rfl (lv_at hl 0 rfl) ?_
    refine lv_iload_n hx hb dX11_fewest_1 rfl (lv_at hl 1 rfl) ?_
    refine tw_Vi (q := (RX11, TX11, 31)) (As := [.int p1]) (rest := []) ⟨hx, hb, hml, hown, hts⟩ (c_X11_isPlate l D cy κ G p0 k0 p1) (cwV 1 hts gX11_fewest_X11_isPlate rfl rfl rfl (by decide +kernel) ⟨Nat.le_of_ble_eq_true rfl, Nat.le_of_ble_eq_true rfl⟩) hK hT hS k0 (by decide) rfl rfl hl.1 rfl (Nat.le_of_ble_eq_true rfl) dX11_fewest_2 ⟨Nat.zero_le _, Nat.zero_le _⟩ (fun x1 u2 H locs hpu2 hT hS => ?_)
    obtain ⟨huu2, qu2⟩ := hpu2
    rw [huu2] at hT
    refine tb_if_eq (tgt := 16) hx hb dX11_fewest_5 (by decide) (fun c3 => ?_) (fun c3 => ?_)
    · skip
      refine lv_iconst (v := (-1 : Int32)) hx hb dX11_fewest_16 (by decide) ?_
      exact hret H locs ls 17 (-1 : Int32) G dX11_fewest_17 ⟨(cntG.rf G), trivial⟩ hT hS
    · skip
      refine lv_aload_n hx hb dX11_fewest_8 rfl (lv_at hl 0 rfl) ?_
      refine lv_iload_n hx hb dX11_fewest_9 rfl (lv_at hl 2 rfl) ?_
      refine tw_Vi (q := (RX11, TX11, 31)) (As := [.int p2]) (rest := []) ⟨hx, hb, hml, hown, hts⟩ (c_X11_isStuff l D cy κ G p0 k0 p2) (cwV 1 hts gX11_fewest_X11_isStuff rfl rfl rfl (by decide +kernel) ⟨Nat.le_of_ble_eq_true rfl, Nat.le_of_ble_eq_true rfl⟩) hK hT hS k0 (by decide) rfl rfl hl.1 rfl (Nat.le_of_ble_eq_true rfl) dX11_fewest_10 ⟨Nat.zero_le _, Nat.zero_le _⟩ (fun x4 u5 H locs hpu5 hT hS => ?_)
      obtain ⟨huu5, qu5⟩ := hpu5
      rw [huu5] at hT
      refine tb_if_ne (tgt := 18) hx hb dX11_fewest_13 (by decide) (fun c6 => ?_) (fun c6 => ?_)
      · skip
        refine lv_iconst (v := (1 : Int32)) hx hb dX11_fewest_18 (by decide) ?_
        refine lv_istore_n (lv' := [(3, .int (1 : Int32)), (0, .ref p0), (1, .int p1), (2, .int p2)]) hx hb dX11_fewest_19 rfl hl (by decide) rfl (fun ls hl => ?_)
        have L20 : ∀ (nn : Nat) (H : Heap) (locs : List Loc) (ls : Array Slot) (u7 : Gh) (x8 : Int32), (nn = (2147483647 - x8.toInt).toNat) → (cntG u7 G) → (TW D cy κ u7 H) → (va_S (AA κ) s.heap H locs) → (lv_has ls 7 [(3, .int x8), (0, .ref p0), (1, .int p1), (2, .int p2)]) → (1 ≤ x8.toInt ∧ x8.toInt ≤ 6) → W p l e rmX11_fewest s m args below meth c H locs 0 0 Q (F0 m 20 ls []) := by
          intro nn
          induction nn using Nat.strongRecOn with
          | _ nn ih20 =>
            intro H locs ls u7 x8 hnn qu7 hT hS hl fL20_0
            have hk9 := TW.k9 hT k0
            refine lv_iload_n hx hb dX11_fewest_20 rfl (lv_at hl 0 rfl) ?_
            refine lv_bipush (v := (6 : Int32)) hx hb dX11_fewest_21 (by decide) ?_
            refine tb_icmp_ge (tgt := 146) hx hb dX11_fewest_23 (by decide) (fun c9 => ?_) (fun c9 => ?_)
            · skip
              refine lv_bipush (v := (-3 : Int32)) hx hb dX11_fewest_146 (by decide) ?_
              exact hret H locs ls 148 (-3 : Int32) u7 dX11_fewest_148 ⟨qu7, trivial⟩ hT hS
            · skip
              refine lv_iconst (v := (0 : Int32)) hx hb dX11_fewest_26 (by decide) ?_
              refine lv_istore (lv' := [(4, .int (0 : Int32)), (3, .int x8), (0, .ref p0), (1, .int p1), (2, .int p2)]) hx hb dX11_fewest_27 hl (by decide) rfl (fun ls hl => ?_)
              have L29 : ∀ (nn : Nat) (H : Heap) (locs : List Loc) (ls : Array Slot) (u10 : Gh) (x11 : Int32), (nn = (2147483647 - x11.toInt).toNat) → (cntG u10 G) → (TW D cy κ u10 H) → (va_S (AA κ) s.heap H locs) → (lv_has ls 7 [(4, .int x11), (3, .int x8), (0, .ref p0), (1, .int p1), (2, .int p2)]) → W p l e rmX11_fewest s m args below meth c H locs 0 0 Q (F0 m 29 ls []) := by
                intro nn
                induction nn using Nat.strongRecOn with
                | _ nn ih29 =>
                  intro H locs ls u10 x11 hnn qu10 hT hS hl 
                  have hk9 := TW.k9 hT k0
                  refine lv_iload hx hb dX11_fewest_29 (lv_at hl 0 rfl) ?_
                  refine lv_iconst (v := (1 : Int32)) hx hb dX11_fewest_31 (by decide) ?_
                  refine lv_iconst (v := (2 : Int32)) hx hb dX11_fewest_32 (by decide) ?_
                  refine lv_iload_n hx hb dX11_fewest_33 rfl (lv_at hl 1 rfl) ?_
                  refine lv_imul hx hb dX11_fewest_34 ?_
                  refine lv_topi (fun x12 ex12 => ?_)
                  have tx12 : x12.toInt = 2 * x8.toInt := by rw [ex12, ti_mul (by rw [hc2]; have := i32b (2 : Int32); have := i32b x8; omega), hc2]
                  refine lv_ishl hx hb dX11_fewest_35 ?_
                  refine lv_topi (fun x13 _ => ?_)
                  refine tb_icmp_ge (tgt := 140) hx hb dX11_fewest_36 (by decide) (fun c14 => ?_) (fun c14 => ?_)
                  · skip
                    obtain ⟨x15, ex15⟩ : ∃ z : Int32, z = x8 + (1 : Int32) := ⟨_, rfl⟩
                    refine lv_iinc (v := x15) (lv' := [(3, .int x15), (4, .int x11), (0, .ref p0), (1, .int p1), (2, .int p2)]) hx hb dX11_fewest_140 hl (k := 1) rfl (by rw [ex15]; rfl) (by decide) rfl (fun ls hl => ?_)
                    have tx15 : x15.toInt = x8.toInt + 1 := by rw [ex15, ti_add (by have := i32b x8; have := i32b x11; have := i32b p1; have := i32b p2; have := i32b (6 : Int32); omega), hc1]
                    refine lv_goto (tgt := 20) hx hb dX11_fewest_143 (by decide) ?_
                    exact ih20 ((2147483647 - x15.toInt).toNat) (by have := i32b x15; have := i32b x11; have := i32b p1; have := i32b p2; omega) H locs ls u10 x15 rfl qu10 hT hS (lv_sub hl [0, 2, 3, 4] rfl) (by omega)
                  · skip
                    refine lv_aload_n hx hb dX11_fewest_39 rfl (lv_at hl 2 rfl) ?_
                    refine gf_11_13 hx hb hts hin11 hown hK hT k0 hfl35 dX11_fewest_40 (fun a16 ka16 fva16 => ?_)
                    refine lv_iconst (v := (4 : Int32)) hx hb dX11_fewest_43 (by decide) ?_
                    refine lv_iconst (v := (0 : Int32)) hx hb dX11_fewest_44 (by decide) ?_
                    refine ag_50 hx hb hK hT hS ka16 (by omega) dX11_fewest_45 (by omega) (fun H locs hT hS => ?_)
                    obtain ⟨u17, eu17⟩ : ∃ u : Gh, u = cG u10 (100 + (4 : Int32).toInt.toNat) (0 : Int32) := ⟨_, rfl⟩
                    rw [← eu17] at hT
                    have au17 : (u17.1 (100 + (4 : Int32).toInt.toNat)).toInt = (0 : Int32).toInt := by rw [eu17, cG_at]
                    have bu17 : ∀ j, j ≠ 100 + (4 : Int32).toInt.toNat → u17.1 j = u10.1 j := fun j hj => by rw [eu17]; exact if_neg hj
                    have du17 : u17.2 = u10.2 := by rw [eu17]; rfl
                    refine lv_iconst (v := (0 : Int32)) hx hb dX11_fewest_46 (by decide) ?_
                    refine lv_istore (lv' := [(5, .int (0 : Int32)), (4, .int x11), (3, .int x8), (0, .ref p0), (1, .int p1), (2, .int p2)]) hx hb dX11_fewest_47 hl (by decide) rfl (fun ls hl => ?_)
                    have L49 : ∀ (nn : Nat) (H : Heap) (locs : List Loc) (ls : Array Slot) (u18 : Gh) (x19 : Int32), (nn = (2147483647 - x19.toInt).toNat) → (cntG u18 G) → (TW D cy κ u18 H) → (va_S (AA κ) s.heap H locs) → (lv_has ls 7 [(5, .int x19), (4, .int x11), (3, .int x8), (0, .ref p0), (1, .int p1), (2, .int p2)]) → (0 ≤ x19.toInt ∧ x19.toInt ≤ 10) → ((u18.1 (100 + (4 : Int32).toInt.toNat)).toInt = x19.toInt) → W p l e rmX11_fewest s m args below meth c H locs 0 0 Q (F0 m 49 ls []) := by
                      intro nn
                      induction nn using Nat.strongRecOn with
                      | _ nn ih49 =>
                        intro H locs ls u18 x19 hnn qu18 hT hS hl fL49_0 fL49_1
                        have hk9 := TW.k9 hT k0
                        refine lv_iload hx hb dX11_fewest_49 (lv_at hl 0 rfl) ?_
                        refine lv_iconst (v := (2 : Int32)) hx hb dX11_fewest_51 (by decide) ?_
                        refine lv_iload_n hx hb dX11_fewest_52 rfl (lv_at hl 2 rfl) ?_
                        refine lv_imul hx hb dX11_fewest_53 ?_
                        refine lv_topi (fun x20 ex20 => ?_)
                        have tx20 : x20.toInt = 2 * x8.toInt := by rw [ex20, ti_mul (by rw [hc2]; have := i32b (2 : Int32); have := i32b x8; omega), hc2]
                        refine tb_icmp_ge (tgt := 105) hx hb dX11_fewest_54 (by decide) (fun c21 => ?_) (fun c21 => ?_)
                        · skip
                          refine lv_aload_n hx hb dX11_fewest_105 rfl (lv_at hl 3 rfl) ?_
                          refine lv_iconst (v := (4 : Int32)) hx hb dX11_fewest_106 (by decide) ?_
                          refine tw_Vi (q := (RX11, TX11, 31)) (As := [.int (4 : Int32)]) (rest := []) ⟨hx, hb, hml, hown, hts⟩ (c_X11_ruleOf l D cy κ u18 p0 k0 (4 : Int32) (by omega)) (cwV 1 hts gX11_fewest_X11_ruleOf rfl rfl rfl (by decide +kernel) ⟨Nat.le_of_ble_eq_true rfl, Nat.le_of_ble_eq_true rfl⟩) hK hT hS k0 (by decide) rfl rfl hl.1 rfl (Nat.le_of_ble_eq_true rfl) dX11_fewest_107 ⟨Nat.zero_le _, Nat.zero_le _⟩ (fun x22 u23 H locs hpu23 hT hS => ?_)
                          obtain ⟨huu23, qu23⟩ := hpu23
                          rw [huu23] at hT
                          have J134 : ∀ (H : Heap) (locs : List Loc) (ls : Array Slot) (u24 : Gh) , (cntG u24 G) → (TW D cy κ u24 H) → (va_S (AA κ) s.heap H locs) → (lv_has ls 7 [(5, .int x19), (4, .int x11), (3, .int x8), (0, .ref p0), (1, .int p1), (2, .int p2)]) → W p l e rmX11_fewest s m args below meth c H locs 0 0 Q (F0 m 134 ls []) := by
                            intro H locs ls u24 qu24 hT hS hl 
                            have hk9 := TW.k9 hT k0
                            obtain ⟨x25, ex25⟩ : ∃ z : Int32, z = x11 + (1 : Int32) := ⟨_, rfl⟩
                            refine lv_iinc (v := x25) (lv' := [(4, .int x25), (5, .int x19), (3, .int x8), (0, .ref p0), (1, .int p1), (2, .int p2)]) hx hb dX11_fewest_134 hl (k := 1) rfl (by rw [ex25]; rfl) (by decide) rfl (fun ls hl => ?_)
                            have tx25 : x25.toInt = x11.toInt + 1 := by rw [ex25, ti_add (by have := i32b x11; have := i32b x19; have := i32b x8; have := i32b p1; have := i32b p2; have := i32b x13; omega), hc1]
                            refine lv_goto (tgt := 29) hx hb dX11_fewest_137 (by decide) ?_
                            exact ih29 ((2147483647 - x25.toInt).toNat) (by have := i32b x25; have := i32b x19; have := i32b x8; have := i32b p1; have := i32b p2; omega) H locs ls u24 x25 rfl qu24 hT hS (lv_sub hl [0, 2, 3, 4, 5] rfl) 
                          refine tb_if_ne (tgt := 134) hx hb dX11_fewest_110 (by decide) (fun c26 => ?_) (fun c26 => ?_)
                          · skip
                            exact J134 H locs ls u18 qu18 hT hS (lv_sub hl [0, 1, 2, 3, 4, 5] rfl) 
                          · skip
                            refine lv_aload_n hx hb dX11_fewest_113 rfl (lv_at hl 3 rfl) ?_
                            refine lv_iconst (v := (4 : Int32)) hx hb dX11_fewest_114 (by decide) ?_
                            refine tw_Vi (q := (RX11, TX11, 31)) (As := [.int (4 : Int32)]) (rest := []) ⟨hx, hb, hml, hown, hts⟩ (c_X11_holdsAll l D cy κ u18 p0 k0 (4 : Int32) (by omega)) (cwV 1 hts gX11_fewest_X11_holdsAll rfl rfl rfl (by decide +kernel) ⟨Nat.le_of_ble_eq_true rfl, Nat.le_of_ble_eq_true rfl⟩) hK hT hS k0 (by decide) rfl rfl hl.1 rfl (Nat.le_of_ble_eq_true rfl) dX11_fewest_115 ⟨Nat.zero_le _, Nat.zero_le _⟩ (fun x27 u28 H locs hpu28 hT hS => ?_)
                            obtain ⟨qu28, ru28⟩ := hpu28
                            refine tb_if_ne (tgt := 124) hx hb dX11_fewest_118 (by decide) (fun c29 => ?_) (fun c29 => ?_)
                            · skip
                              refine lv_aload_n hx hb dX11_fewest_124 rfl (lv_at hl 3 rfl) ?_
                              refine lv_iconst (v := (4 : Int32)) hx hb dX11_fewest_125 (by decide) ?_
                              refine lv_iload_n hx hb dX11_fewest_126 rfl (lv_at hl 4 rfl) ?_
                              refine tw_Vv (q := (RX11, TX11, 31)) (As := [.int (4 : Int32), .int p1]) (rest := []) ⟨hx, hb, hml, hown, hts⟩ (c_X11_copies l D cy κ u28 p0 k0 (4 : Int32) (by omega) p1 (by omega) (by omega)) (cwV 2 hts gX11_fewest_X11_copies rfl rfl rfl (by decide +kernel) ⟨Nat.le_of_ble_eq_true rfl, Nat.le_of_ble_eq_true rfl⟩) hK hT hS k0 (by decide) rfl rfl hl.1 rfl (Nat.le_of_ble_eq_true rfl) dX11_fewest_127 ⟨Nat.zero_le _, Nat.zero_le _⟩ (fun u31 H locs hpu31 hT hS => ?_)
                              obtain ⟨qu31, ru31⟩ := hpu31
                              refine lv_iconst (v := (2 : Int32)) hx hb dX11_fewest_130 (by decide) ?_
                              refine lv_iload_n hx hb dX11_fewest_131 rfl (lv_at hl 2 rfl) ?_
                              refine lv_imul hx hb dX11_fewest_132 ?_
                              refine lv_topi (fun x32 ex32 => ?_)
                              have tx32 : x32.toInt = 2 * x8.toInt := by rw [ex32, ti_mul (by rw [hc2]; have := i32b (2 : Int32); have := i32b x8; omega), hc2]
                              exact hret H locs ls 133 x32 u31 dX11_fewest_133 ⟨(cntG.tr_midG qu31 (cntG.tr_fG qu28 qu18)), trivial⟩ hT hS
                            · skip
                              refine lv_goto (tgt := 134) hx hb dX11_fewest_121 (by decide) ?_
                              exact J134 H locs ls u28 (cntG.tr_fG qu28 qu18) hT hS (lv_sub hl [0, 1, 2, 3, 4, 5] rfl) 
                        · skip
                          refine lv_iload hx hb dX11_fewest_57 (lv_at hl 0 rfl) ?_
                          refine lv_iload_n hx hb dX11_fewest_59 rfl (lv_at hl 2 rfl) ?_
                          have J76 : ∀ (H : Heap) (locs : List Loc) (ls : Array Slot) (x33 : Int32), (TW D cy κ u18 H) → (va_S (AA κ) s.heap H locs) → (lv_has ls 7 [(5, .int x19), (4, .int x11), (3, .int x8), (0, .ref p0), (1, .int p1), (2, .int p2)]) → (x33.toInt ≤ 8) → W p l e rmX11_fewest s m args below meth c H locs 0 0 Q (F0 m 76 ls [.int x33]) := by
                            intro H locs ls x33 hT hS hl fJ76_0
                            have hk9 := TW.k9 hT k0
                            refine lv_istore (lv' := [(6, .int x33), (5, .int x19), (4, .int x11), (3, .int x8), (0, .ref p0), (1, .int p1), (2, .int p2)]) hx hb dX11_fewest_76 hl (by decide) rfl (fun ls hl => ?_)
                            refine lv_aload_n hx hb dX11_fewest_78 rfl (lv_at hl 4 rfl) ?_
                            refine lv_iconst (v := (4 : Int32)) hx hb dX11_fewest_79 (by decide) ?_
                            refine lv_iload_n hx hb dX11_fewest_80 rfl (lv_at hl 6 rfl) ?_
                            refine lv_iload hx hb dX11_fewest_81 (lv_at hl 2 rfl) ?_
                            refine lv_iconst (v := (2 : Int32)) hx hb dX11_fewest_83 (by decide) ?_
                            refine lv_iload_n hx hb dX11_fewest_84 rfl (lv_at hl 3 rfl) ?_
                            refine lv_iconst (v := (1 : Int32)) hx hb dX11_fewest_85 (by decide) ?_
                            refine lv_isub hx hb dX11_fewest_86 ?_
                            refine lv_topi (fun x34 ex34 => ?_)
                            have tx34 : x34.toInt = x8.toInt - (1 : Int32).toInt := by rw [ex34]; exact ti_sub (by have := i32b x8; have := i32b (1 : Int32); omega)
                            refine lv_iload hx hb dX11_fewest_87 (lv_at hl 0 rfl) ?_
                            refine lv_isub hx hb dX11_fewest_89 ?_
                            refine lv_topi (fun x35 ex35 => ?_)
                            have tx35 : x35.toInt = (x34 - x33).toInt := by rw [ex35]
                            refine lv_imul hx hb dX11_fewest_90 ?_
                            refine lv_topi (fun x36 ex36 => ?_)
                            have tx36 : x36.toInt = ((2 : Int32) * x35).toInt := by rw [ex36]
                            refine lv_ishr hx hb dX11_fewest_91 ?_
                            refine lv_topi (fun x37 _ => ?_)
                            refine lv_iconst (v := (3 : Int32)) hx hb dX11_fewest_92 (by decide) ?_
                            refine lv_iand hx hb dX11_fewest_93 ?_
                            refine lv_topi (fun x38 ex38 => ?_)
                            have tx38 : 0 ≤ x38.toInt ∧ x38.toInt ≤ 3 := by rw [ex38]; exact ti_and3 x37
                            refine lv_iconst (v := (1 : Int32)) hx hb dX11_fewest_94 (by decide) ?_
                            refine lv_iconst (v := (0 : Int32)) hx hb dX11_fewest_95 (by decide) ?_
                            have zz40 : (u18.1 (3)).toInt = (G.1 (3)).toInt := congrArg Int32.toInt (qu18 (3) (by omega))
                            refine tw_Vv (q := (RX11, TX11, 31)) (As := [.int (4 : Int32), .int p2, .int x38, .int (1 : Int32), .int (0 : Int32)]) (rest := []) ⟨hx, hb, hml, hown, hts⟩ (c_X11_puts l D cy κ u18 p0 k0 (4 : Int32) (by omega) p2 (by omega) x38 (1 : Int32) (0 : Int32) (by omega) (by omega) (by omega) (by omega)) (cwV 5 hts gX11_fewest_X11_puts rfl rfl rfl (by decide +kernel) ⟨Nat.le_of_ble_eq_true rfl, Nat.le_of_ble_eq_true rfl⟩) hK hT hS k0 (by decide) rfl rfl hl.1 rfl (Nat.le_of_ble_eq_true rfl) dX11_fewest_96 ⟨Nat.zero_le _, Nat.zero_le _⟩ (fun u41 H locs hpu41 hT hS => ?_)
                            obtain ⟨qu41, ru41⟩ := hpu41
                            have mu41 := qu41.2.2
                            obtain ⟨x42, ex42⟩ : ∃ z : Int32, z = x19 + (1 : Int32) := ⟨_, rfl⟩
                            refine lv_iinc (v := x42) (lv' := [(5, .int x42), (6, .int x33), (4, .int x11), (3, .int x8), (0, .ref p0), (1, .int p1), (2, .int p2)]) hx hb dX11_fewest_99 hl (k := 1) rfl (by rw [ex42]; rfl) (by decide) rfl (fun ls hl => ?_)
                            have tx42 : x42.toInt = x19.toInt + 1 := by rw [ex42, ti_add (by have := i32b x19; have := i32b x33; have := i32b x11; have := i32b x8; have := i32b p1; have := i32b p2; have := i32b x20; omega), hc1]
                            refine lv_goto (tgt := 49) hx hb dX11_fewest_102 (by decide) ?_
                            exact ih49 ((2147483647 - x42.toInt).toNat) (by have := i32b x42; have := i32b x33; have := i32b x11; have := i32b x8; have := i32b p1; have := i32b p2; omega) H locs ls u41 x42 rfl (cntG.tr_puts qu41 (by omega) qu18) hT hS (lv_sub hl [0, 2, 3, 4, 5, 6] rfl) (by omega) (by omega)
                          refine tb_icmp_ge (tgt := 68) hx hb dX11_fewest_60 (by decide) (fun c43 => ?_) (fun c43 => ?_)
                          · skip
                            refine lv_iconst (v := (2 : Int32)) hx hb dX11_fewest_68 (by decide) ?_
                            refine lv_iload_n hx hb dX11_fewest_69 rfl (lv_at hl 2 rfl) ?_
                            refine lv_imul hx hb dX11_fewest_70 ?_
                            refine lv_topi (fun x44 ex44 => ?_)
                            have tx44 : x44.toInt = 2 * x8.toInt := by rw [ex44, ti_mul (by rw [hc2]; have := i32b (2 : Int32); have := i32b x8; omega), hc2]
                            refine lv_iconst (v := (1 : Int32)) hx hb dX11_fewest_71 (by decide) ?_
                            refine lv_isub hx hb dX11_fewest_72 ?_
                            refine lv_topi (fun x45 ex45 => ?_)
                            have tx45 : x45.toInt = x44.toInt - (1 : Int32).toInt := by rw [ex45]; exact ti_sub (by have := i32b x44; have := i32b (1 : Int32); omega)
                            refine lv_iload hx hb dX11_fewest_73 (lv_at hl 0 rfl) ?_
                            refine lv_isub hx hb dX11_fewest_75 ?_
                            refine lv_topi (fun x46 ex46 => ?_)
                            have tx46 : x46.toInt = x45.toInt - x19.toInt := by rw [ex46]; exact ti_sub (by have := i32b x45; have := i32b x19; omega)
                            exact J76 H locs ls x46 hT hS (lv_sub hl [0, 1, 2, 3, 4, 5] rfl) (by omega)
                          · skip
                            refine lv_iload hx hb dX11_fewest_63 (lv_at hl 0 rfl) ?_
                            refine lv_goto (tgt := 76) hx hb dX11_fewest_65 (by decide) ?_
                            exact J76 H locs ls x19 hT hS (lv_sub hl [0, 1, 2, 3, 4, 5] rfl) (by omega)
                    exact L49 _ H locs ls u17 (0 : Int32) rfl (cntG.up bu17 du17 (by omega) qu10) hT hS (lv_sub hl [0, 1, 2, 3, 4, 5] rfl) (by omega) (by omega)
              exact L29 _ H locs ls u7 (0 : Int32) rfl qu7 hT hS (lv_sub hl [0, 1, 2, 3, 4] rfl) 
        exact L20 _ H locs ls G (1 : Int32) rfl (cntG.rf G) hT hS (lv_sub hl [0, 1, 2, 3] rfl) (by omega)
      · skip
        refine lv_iconst (v := (-1 : Int32)) hx hb dX11_fewest_16 (by decide) ?_
        exact hret H locs ls 17 (-1 : Int32) G dX11_fewest_17 ⟨(cntG.rf G), trivial⟩ hT hS
  exact main s.heap [] hT va_S.rf
