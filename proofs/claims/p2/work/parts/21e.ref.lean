abbrev rmX11_shareOf : Room := { frames := 2, cells := 0, slots := 0, locals := 51 }
set_option maxHeartbeats 4000000 in
set_option maxRecDepth 100000 in
theorem c_X11_shareOf (l : Launch) (D : va_G) (cy : Nat → ClassId) (κ : Nat → Nat) (G : Gh) (p0 : Nat) (k0 : κ p0 = 12) (p1 : Int32) (q1 : 0 ≤ p1.toInt ∧ p1.toInt ≤ 59) (p2 : Int32) (q2 : 0 ≤ p2.toInt ∧ p2.toInt ≤ 4) : Met l yX11_shareOf wsX11_shareOf rmX11_shareOf (va_Pc [.ref p0, .int p1, .int p2] (fun U => WW D cy κ G U)) (va_Ql (fun (r : Int64) (u : Gh) => u = G ∧ ((G.1 (200 + p1.toInt.toNat)).toInt ≠ 2 ∧ ((G.1 (200 + p1.toInt.toNat)).toInt ≠ 1 ∨ p2.toInt < 2) ∨ r.toInt = 0)) (fun u t => WW D cy κ u t) (AA κ)) 0 0 (AA κ) := by
  refine Met.twl (cc := cX11_shareOf) (maxL := 5) (by decide) rfl (Nat.le_of_ble_eq_true rfl) ?_
  intro p e s m args below meth c Q hx hb hml hown hts hK hT hret ls hl
  have hl : lv_has ls 5 [(0, .ref p0), (1, .int p1), (2, .int p2)] := hl
  have hc2 : (2 : Int32).toInt = 2 := rfl
  have hc4 : (4 : Int32).toInt = 4 := rfl
  have hlc0 : (0 : Int64).toInt = 0 := rfl
  have main : ∀ (H : Heap) (locs : List Loc), TW D cy κ G H → va_S (AA κ) s.heap H locs → W p l e rmX11_shareOf s m args below meth c H locs 0 0 Q (F0 m 0 ls []) := by
    intro H locs hT hS
    refine lv_aload_n hx hb dX11_shareOf_0 rfl (lv_at hl 0 rfl) ?_
    refine lv_iload_n hx hb dX11_shareOf_1 rfl (lv_at hl 1 rfl) ?_
    refine lv_iload_n hx hb dX11_shareOf_2 rfl (lv_at hl 2 rfl) ?_
    refine lv_iconst (v := (2 : Int32)) hx hb dX11_shareOf_3 (by decide) ?_
    refine lv_idiv hx hb dX11_shareOf_4 (by decide) ?_
    refine lv_topi (fun x1 ex1 => ?_)
    have tx1 : x1.toInt = p2.toInt / 2 := by rw [ex1]; exact ti_div hc2 (by omega) (by decide)
    refine tw_Vl (q := (RX11, TX11, 31)) (As := [.int p1, .int x1]) (rest := []) ⟨hx, hb, hml, hown, hts⟩ (c_X11_stress l D cy κ G p0 k0 p1 (by omega) x1) (cwV 2 hts gX11_shareOf_X11_stress rfl rfl rfl (by decide +kernel) ⟨Nat.le_of_ble_eq_true rfl, Nat.le_of_ble_eq_true rfl⟩) hK hT hS k0 (by decide) rfl rfl hl.1 rfl (Nat.le_of_ble_eq_true rfl) dX11_shareOf_5 ⟨Nat.zero_le _, Nat.zero_le _⟩ (fun y2 u3 H locs hpu3 hT hS => ?_)
    obtain ⟨huu3, qu3⟩ := hpu3
    rw [huu3] at hT
    refine lv_lstore_n (lv' := [(3, .long y2), (0, .ref p0), (1, .int p1), (2, .int p2)]) hx hb dX11_shareOf_8 rfl hl (by decide) rfl (fun ls hl => ?_)
    refine lv_iload_n hx hb dX11_shareOf_9 rfl (lv_at hl 3 rfl) ?_
    refine lv_iconst (v := (4 : Int32)) hx hb dX11_shareOf_10 (by decide) ?_
    refine tb_icmp_ne (tgt := 27) hx hb dX11_shareOf_11 (by decide) (fun c4 => ?_) (fun c4 => ?_)
    · skip
      refine lv_iload_n hx hb dX11_shareOf_27 rfl (lv_at hl 3 rfl) ?_
      refine lv_iconst (v := (2 : Int32)) hx hb dX11_shareOf_28 (by decide) ?_
      refine lv_irem hx hb dX11_shareOf_29 (by decide) ?_
      refine lv_topi (fun x5 ex5 => ?_)
      rw [irem_eq] at ex5
      have tx5 : x5.toInt = p2.toInt % 2 := by rw [ex5]; exact ti_rem hc2 (by omega) (by decide)
      refine tb_if_ne (tgt := 47) hx hb dX11_shareOf_30 (by decide) (fun c6 => ?_) (fun c6 => ?_)
      · skip
        refine lv_lload_n hx hb dX11_shareOf_47 rfl (lv_at hl 0 rfl) ?_
        refine lv_lconst (v := 0) hx hb dX11_shareOf_48 (by decide) ?_
        refine tb_lcmp2 hx hb dX11_shareOf_49 (fun x7 tx7 ux7 => ?_)
        refine tb_if_ge (tgt := 58) hx hb dX11_shareOf_50 (by decide) (fun c8 => ?_) (fun c8 => ?_)
        · skip
          refine lv_lconst (v := 0) hx hb dX11_shareOf_58 (by decide) ?_
          exact hret H locs ls 59 (0 : Int64) G dX11_shareOf_59 ⟨rfl, by omega⟩ hT hS
        · skip
          refine lv_lload_n hx hb dX11_shareOf_53 rfl (lv_at hl 0 rfl) ?_
          refine lv_lneg hx hb dX11_shareOf_54 ?_
          refine lv_topl (fun y9 ey9 => ?_)
          have ty9 : y9.toInt = 0 ↔ y2.toInt = 0 := by rw [ey9]; exact neg64 y2
          refine lv_goto (tgt := 59) hx hb dX11_shareOf_55 (by decide) ?_
          exact hret H locs ls 59 y9 G dX11_shareOf_59 ⟨rfl, by omega⟩ hT hS
      · skip
        refine lv_lload_n hx hb dX11_shareOf_33 rfl (lv_at hl 0 rfl) ?_
        refine lv_lconst (v := 0) hx hb dX11_shareOf_34 (by decide) ?_
        refine tb_lcmp2 hx hb dX11_shareOf_35 (fun x10 tx10 ux10 => ?_)
        refine tb_if_le (tgt := 43) hx hb dX11_shareOf_36 (by decide) (fun c11 => ?_) (fun c11 => ?_)
        · skip
          refine lv_lconst (v := 0) hx hb dX11_shareOf_43 (by decide) ?_
          refine lv_goto (tgt := 59) hx hb dX11_shareOf_44 (by decide) ?_
          exact hret H locs ls 59 (0 : Int64) G dX11_shareOf_59 ⟨rfl, by omega⟩ hT hS
        · skip
          refine lv_lload_n hx hb dX11_shareOf_39 rfl (lv_at hl 0 rfl) ?_
          refine lv_goto (tgt := 59) hx hb dX11_shareOf_40 (by decide) ?_
          exact hret H locs ls 59 y2 G dX11_shareOf_59 ⟨rfl, by omega⟩ hT hS
    · skip
      refine lv_lload_n hx hb dX11_shareOf_14 rfl (lv_at hl 0 rfl) ?_
      refine lv_lconst (v := 0) hx hb dX11_shareOf_15 (by decide) ?_
      refine tb_lcmp2 hx hb dX11_shareOf_16 (fun x12 tx12 ux12 => ?_)
      refine tb_if_ge (tgt := 25) hx hb dX11_shareOf_17 (by decide) (fun c13 => ?_) (fun c13 => ?_)
      · skip
        refine lv_lload_n hx hb dX11_shareOf_25 rfl (lv_at hl 0 rfl) ?_
        exact hret H locs ls 26 y2 G dX11_shareOf_26 ⟨rfl, by omega⟩ hT hS
      · skip
        refine lv_lload_n hx hb dX11_shareOf_20 rfl (lv_at hl 0 rfl) ?_
        refine lv_lneg hx hb dX11_shareOf_21 ?_
        refine lv_topl (fun y14 ey14 => ?_)
        have ty14 : y14.toInt = 0 ↔ y2.toInt = 0 := by rw [ey14]; exact neg64 y2
        refine lv_goto (tgt := 26) hx hb dX11_shareOf_22 (by decide) ?_
        exact hret H locs ls 26 y14 G dX11_shareOf_26 ⟨rfl, by omega⟩ hT hS
  exact main s.heap [] hT va_S.rf

abbrev rmX11_strengthOf : Room := { frames := 0, cells := 0, slots := 0, locals := 0 }
set_option maxHeartbeats 4000000 in
set_option maxRecDepth 100000 in
theorem c_X11_strengthOf (l : Launch) (D : va_G) (cy : Nat → ClassId) (κ : Nat → Nat) (G : Gh) (p0 : Nat) (k0 : κ p0 = 12) (p1 : Int32) (q1 : 0 ≤ p1.toInt ∧ p1.toInt ≤ 59) (p2 : Int32) (q2 : 0 ≤ p2.toInt ∧ p2.toInt ≤ 4) (h3 : 0 < (G.1 3).toInt) : Met l yX11_strengthOf wsX11_strengthOf rmX11_strengthOf (va_Pc [.ref p0, .int p1, .int p2] (fun U => WW D cy κ G U)) (va_Qi (fun (r : Int32) (u : Gh) => u = G ∧ (1 ≤ r.toInt)) (fun u t => WW D cy κ u t) (AA κ)) 0 0 (AA κ) := by
  refine Met.twi (cc := cX11_strengthOf) (maxL := 3) (by decide) rfl (Nat.le_of_ble_eq_true rfl) ?_
  intro p e s m args below meth c Q hx hb hml hown hts hK hT hret ls hl
  have hl : lv_has ls 3 [(0, .ref p0), (1, .int p1), (2, .int p2)] := hl
  have hfl26 := hts (.fieldLink RX11 26 "PlyPlatesModel" "strengths" "[I") (by decide +kernel)
  have hin11 : ∀ w ∈ u_ws RX11 TX11 31, w ∈ wsX11_strengthOf := by decide +kernel
  have hc5 : (5 : Int32).toInt = 5 := rfl
  have hfl38 := hts (.fieldLink RX11 38 "PlyPlatesModel" "stuff" "[I") (by decide +kernel)
  have main : ∀ (H : Heap) (locs : List Loc), TW D cy κ G H → va_S (AA κ) s.heap H locs → W p l e rmX11_strengthOf s m args below meth c H locs 0 0 Q (F0 m 0 ls []) := by
    intro H locs hT hS
    have hk9 := TW.k9 hT k0
    refine lv_aload_n hx hb dX11_strengthOf_0 rfl (lv_at hl 0 rfl) ?_
    refine gf_11_10 hx hb hts hin11 hown hK hT k0 hfl26 dX11_strengthOf_1 (fun a1 ka1 fva1 => ?_)
    refine lv_iconst (v := (5 : Int32)) hx hb dX11_strengthOf_4 (by decide) ?_
    refine lv_aload_n hx hb dX11_strengthOf_5 rfl (lv_at hl 0 rfl) ?_
    refine gf_11_14 hx hb hts hin11 hown hK hT k0 hfl38 dX11_strengthOf_6 (fun a2 ka2 fva2 => ?_)
    refine lv_iload_n hx hb dX11_strengthOf_9 rfl (lv_at hl 1 rfl) ?_
    refine tw_ia (K := 51) (n := 60) (P := fun x => (0 ≤ x.toInt ∧ x.toInt ≤ 2) ∧ (x.toInt = 0 ∨ x.toInt < (G.1 3).toInt)) hx hb hK hT ka2 (by decide) rfl rfl (by omega) rfl dX11_strengthOf_10 (fun x3 kx3 fvx3 => ?_)
    have kx3 : (0 ≤ x3.toInt ∧ x3.toInt ≤ 2) ∧ (x3.toInt = 0 ∨ x3.toInt < (G.1 3).toInt) := kx3
    refine lv_imul hx hb dX11_strengthOf_11 ?_
    refine lv_topi (fun x4 ex4 => ?_)
    have tx4 : x4.toInt = 5 * x3.toInt := by rw [ex4, ti_mul (by rw [hc5]; have := i32b (5 : Int32); have := i32b x3; omega), hc5]
    refine lv_iload_n hx hb dX11_strengthOf_12 rfl (lv_at hl 2 rfl) ?_
    refine lv_iadd hx hb dX11_strengthOf_13 ?_
    refine lv_topi (fun x5 ex5 => ?_)
    have tx5 : x5.toInt = x4.toInt + p2.toInt := by rw [ex5]; exact ti_add (by have := i32b x4; have := i32b p2; omega)
    refine tw_ia (K := 53) (n := 15) (P := fun x => ((x5.toInt.toNat : Nat) : Int) < (G.1 9).toInt → 1 ≤ x.toInt) hx hb hK hT ka1 (by decide) rfl rfl (by omega) rfl dX11_strengthOf_14 (fun x6 kx6 fvx6 => ?_)
    have kx6 : ((x5.toInt.toNat : Nat) : Int) < (G.1 9).toInt → 1 ≤ x6.toInt := kx6
    exact hret H locs ls 15 x6 G dX11_strengthOf_15 ⟨rfl, by omega⟩ hT hS
  exact main s.heap [] hT va_S.rf

abbrev rmX11_factorOf : Room := { frames := 1, cells := 0, slots := 0, locals := 29 }
set_option maxHeartbeats 4000000 in
set_option maxRecDepth 100000 in
theorem c_X11_factorOf (l : Launch) (D : va_G) (cy : Nat → ClassId) (κ : Nat → Nat) (G : Gh) (p0 : Nat) (k0 : κ p0 = 12) (p1 : Int32) (hs : (G.2 0).toInt ≠ 0) (hk : 1 ≤ (G.1 7).toInt) : Met l yX11_factorOf wsX11_factorOf rmX11_factorOf (va_Pc [.ref p0, .int p1] (fun U => WW D cy κ G U)) (va_Ql (fun (r : Int64) (u : Gh) => u = G ∧ (p1.toInt = 0 ∨ r.toInt ≠ 0)) (fun u t => WW D cy κ u t) (AA κ)) 0 0 (AA κ) := by
  refine Met.twl (cc := cX11_factorOf) (maxL := 8) (by decide) rfl (Nat.le_of_ble_eq_true rfl) ?_
  intro p e s m args below meth c Q hx hb hml hown hts hK hT hret ls hl
  have hl : lv_has ls 8 [(0, .ref p0), (1, .int p1)] := hl
  have hfl169 := hts (.fieldLink RX11 169 "PlyPlatesModel" "firstShare" "J") (by decide +kernel)
  have hin11 : ∀ w ∈ u_ws RX11 TX11 31, w ∈ wsX11_factorOf := by decide +kernel
  have hkl156 := hts (.constantLong RX11 156 (2)) (by decide +kernel)
  have hlk156 : (2 : Int64).toInt = 2 := rfl
  have hfl120 := hts (.fieldLink RX11 120 "PlyPlatesModel" "below" "J") (by decide +kernel)
  have hfl172 := hts (.fieldLink RX11 172 "PlyPlatesModel" "firstStrength" "I") (by decide +kernel)
  have main : ∀ (H : Heap) (locs : List Loc), TW D cy κ G H → va_S (AA κ) s.heap H locs → W p l e rmX11_factorOf s m args below meth c H locs 0 0 Q (F0 m 0 ls []) := by
    intro H locs hT hS
    refine lv_aload_n hx hb dX11_factorOf_0 rfl (lv_at hl 0 rfl) ?_
    refine gf_11_25 hx hb hts hin11 hown hK hT k0 hfl169 dX11_factorOf_1 (fun y1 ky1 fvy1 => ?_)
    have gy1 := congrArg Int64.toInt ky1
    refine lv_lstore_n (lv' := [(2, .long y1), (0, .ref p0), (1, .int p1)]) hx hb dX11_factorOf_4 rfl hl (by decide) rfl (fun ls hl => ?_)
    refine lv_ldc2 hx hb hown hkl156 dX11_factorOf_5 ?_
    refine lv_aload_n hx hb dX11_factorOf_8 rfl (lv_at hl 1 rfl) ?_
    refine gf_11_24 hx hb hts hin11 hown hK hT k0 hfl120 dX11_factorOf_9 (fun y2 ky2 fvy2 => ?_)
    refine lv_lmul hx hb dX11_factorOf_12 ?_
    refine lv_topl (fun y3 ey3 => ?_)
    refine lv_lstore (lv' := [(4, .long y3), (2, .long y1), (0, .ref p0), (1, .int p1)]) hx hb dX11_factorOf_13 hl (by decide) rfl (fun ls hl => ?_)
    refine lv_lload hx hb dX11_factorOf_15 (lv_at hl 0 rfl) ?_
    refine lv_lload_n hx hb dX11_factorOf_17 rfl (lv_at hl 1 rfl) ?_
    refine tw_Sl (As := [.long y3, .long y1]) (rest := []) ⟨hx, hb, hml, hown, hts⟩ (c_X11_divisor l D cy κ G y3 y1) (va_cwS 2 hts gX11_factorOf_X11_divisor rfl rfl rfl (by decide +kernel) ⟨Nat.le_of_ble_eq_true rfl, Nat.le_of_ble_eq_true rfl⟩) hK hT hS rfl hl.1 rfl (Nat.le_of_ble_eq_true rfl) dX11_factorOf_18 ⟨Nat.zero_le _, Nat.zero_le _⟩ (fun y4 u5 H locs hpu5 hT hS => ?_)
    obtain ⟨huu5, qu5⟩ := hpu5
    rw [huu5] at hT
    have qdv1 := qu5
    refine lv_lstore (lv' := [(6, .long y4), (4, .long y3), (2, .long y1), (0, .ref p0), (1, .int p1)]) hx hb dX11_factorOf_21 hl (by decide) rfl (fun ls hl => ?_)
    refine lv_lload hx hb dX11_factorOf_23 (lv_at hl 1 rfl) ?_
    refine lv_lload hx hb dX11_factorOf_25 (lv_at hl 0 rfl) ?_
    refine lv_ldiv hx hb dX11_factorOf_27 (ne64 (by omega)) ?_
    refine lv_topl (fun y6 ey6 => ?_)
    have ty6 : y6.toInt = (y3 / y4).toInt := by rw [ey6]
    refine lv_lstore (lv' := [(4, .long y6), (6, .long y4), (2, .long y1), (0, .ref p0), (1, .int p1)]) hx hb dX11_factorOf_28 hl (by decide) rfl (fun ls hl => ?_)
    refine lv_lload_n hx hb dX11_factorOf_30 rfl (lv_at hl 2 rfl) ?_
    refine lv_lload hx hb dX11_factorOf_31 (lv_at hl 1 rfl) ?_
    refine lv_ldiv hx hb dX11_factorOf_33 (ne64 (by omega)) ?_
    refine lv_topl (fun y7 ey7 => ?_)
    have ty7 : y7.toInt = (y1 / y4).toInt := by rw [ey7]
    have ny7 : y7.toInt ≠ 0 := div64_ne ey7 qdv1.1.2 (by omega)
    refine lv_lstore_n (lv' := [(2, .long y7), (4, .long y6), (6, .long y4), (0, .ref p0), (1, .int p1)]) hx hb dX11_factorOf_34 rfl hl (by decide) rfl (fun ls hl => ?_)
    refine lv_aload_n hx hb dX11_factorOf_35 rfl (lv_at hl 3 rfl) ?_
    refine gf_11_26 hx hb hts hin11 hown hK hT k0 hfl172 dX11_factorOf_36 (fun x8 kx8 fvx8 => ?_)
    have gx8 := congrArg Int32.toInt kx8
    refine lv_i2l hx hb dX11_factorOf_39 rfl ?_
    refine lv_topl (fun y9 ey9 => ?_)
    have ty9 : y9.toInt = x8.toInt := by rw [ey9]; exact Int32.toInt_toInt64 x8
    refine lv_lload_n hx hb dX11_factorOf_40 rfl (lv_at hl 0 rfl) ?_
    refine tw_Sl (As := [.long y9, .long y7]) (rest := []) ⟨hx, hb, hml, hown, hts⟩ (c_X11_divisor l D cy κ G y9 y7) (va_cwS 2 hts gX11_factorOf_X11_divisor rfl rfl rfl (by decide +kernel) ⟨Nat.le_of_ble_eq_true rfl, Nat.le_of_ble_eq_true rfl⟩) hK hT hS rfl hl.1 rfl (Nat.le_of_ble_eq_true rfl) dX11_factorOf_41 ⟨Nat.zero_le _, Nat.zero_le _⟩ (fun y10 u11 H locs hpu11 hT hS => ?_)
    obtain ⟨huu11, qu11⟩ := hpu11
    rw [huu11] at hT
    have qdv2 := qu11
    refine lv_lstore (lv' := [(6, .long y10), (2, .long y7), (4, .long y6), (0, .ref p0), (1, .int p1)]) hx hb dX11_factorOf_44 hl (by decide) rfl (fun ls hl => ?_)
    refine lv_iload_n hx hb dX11_factorOf_46 rfl (lv_at hl 4 rfl) ?_
    refine tb_if_ne (tgt := 64) hx hb dX11_factorOf_47 (by decide) (fun c12 => ?_) (fun c12 => ?_)
    · skip
      refine lv_lload_n hx hb dX11_factorOf_64 rfl (lv_at hl 1 rfl) ?_
      refine lv_lload hx hb dX11_factorOf_65 (lv_at hl 0 rfl) ?_
      refine lv_ldiv hx hb dX11_factorOf_67 (ne64 (by omega)) ?_
      refine lv_topl (fun y13 ey13 => ?_)
      have ty13 : y13.toInt = (y7 / y10).toInt := by rw [ey13]
      have ny13 : y13.toInt ≠ 0 := div64_ne ey13 qdv2.1.2 (by omega)
      exact hret H locs ls 68 y13 G dX11_factorOf_68 ⟨rfl, by omega⟩ hT hS
    · skip
      refine lv_lload hx hb dX11_factorOf_50 (lv_at hl 2 rfl) ?_
      refine lv_aload_n hx hb dX11_factorOf_52 rfl (lv_at hl 3 rfl) ?_
      refine gf_11_26 hx hb hts hin11 hown hK hT k0 hfl172 dX11_factorOf_53 (fun x14 kx14 fvx14 => ?_)
      have gx14 := congrArg Int32.toInt kx14
      refine lv_i2l hx hb dX11_factorOf_56 rfl ?_
      refine lv_topl (fun y15 ey15 => ?_)
      have ty15 : y15.toInt = x14.toInt := by rw [ey15]; exact Int32.toInt_toInt64 x14
      refine lv_lload hx hb dX11_factorOf_57 (lv_at hl 0 rfl) ?_
      refine lv_ldiv hx hb dX11_factorOf_59 (ne64 (by omega)) ?_
      refine lv_topl (fun y16 ey16 => ?_)
      have ty16 : y16.toInt = (y15 / y10).toInt := by rw [ey16]
      refine lv_lmul hx hb dX11_factorOf_60 ?_
      refine lv_topl (fun y17 ey17 => ?_)
      refine lv_goto (tgt := 68) hx hb dX11_factorOf_61 (by decide) ?_
      exact hret H locs ls 68 y17 G dX11_factorOf_68 ⟨rfl, by omega⟩ hT hS
  exact main s.heap [] hT va_S.rf
