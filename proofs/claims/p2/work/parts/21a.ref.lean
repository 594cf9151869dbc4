abbrev rmX11_divisor : Room := { frames := 0, cells := 0, slots := 0, locals := 0 }
set_option maxHeartbeats 4000000 in
set_option maxRecDepth 100000 in
theorem c_X11_divisor (l : Launch) (D : va_G) (cy : Nat → ClassId) (κ : Nat → Nat) (G : Gh) (p0 : Int64) (p1 : Int64) : Met l yX11_divisor wsX11_divisor rmX11_divisor (va_Pc [.long p0, .long p1] (fun U => WW D cy κ G U)) (va_Ql (fun (r : Int64) (u : Gh) => u = G ∧ ((r.toInt ∣ p0.toInt ∧ r.toInt ∣ p1.toInt) ∧ (r.toInt ≠ 0 ∨ p0.toInt = 0 ∧ p1.toInt = 0))) (fun u t => WW D cy κ u t) (AA κ)) 0 0 (AA κ) := by
  refine Met.twl (cc := cX11_divisor) (maxL := 10) (by decide) rfl (Nat.le_of_ble_eq_true rfl) ?_
  intro p e s m args below meth c Q hx hb hml hown hts hK hT hret ls hl
  have hl : lv_has ls 10 [(0, .long p0), (2, .long p1)] := hl
  have hlc0 : (0 : Int64).toInt = 0 := rfl
  have main : ∀ (H : Heap) (locs : List Loc), TW D cy κ G H → va_S (AA κ) s.heap H locs → W p l e rmX11_divisor s m args below meth c H locs 0 0 Q (F0 m 0 ls []) := by
    intro H locs hT hS
    refine lv_lload_n hx hb dX11_divisor_0 rfl (lv_at hl 0 rfl) ?_
    refine lv_lconst (v := 0) hx hb dX11_divisor_1 (by decide) ?_
    refine tb_lcmp2 hx hb dX11_divisor_2 (fun x1 tx1 ux1 => ?_)
    have J12 : ∀ (H : Heap) (locs : List Loc) (ls : Array Slot) (y2 : Int64), (TW D cy κ G H) → (va_S (AA κ) s.heap H locs) → (lv_has ls 10 [(0, .long p0), (2, .long p1)]) → (∀ d : Int, d ∣ y2.toInt → d ∣ p0.toInt) → W p l e rmX11_divisor s m args below meth c H locs 0 0 Q (F0 m 12 ls [.long y2]) := by
      intro H locs ls y2 hT hS hl fJ12_0
      refine lv_lstore (lv' := [(4, .long y2), (0, .long p0), (2, .long p1)]) hx hb dX11_divisor_12 hl (by decide) rfl (fun ls hl => ?_)
      refine lv_lload_n hx hb dX11_divisor_14 rfl (lv_at hl 2 rfl) ?_
      refine lv_lconst (v := 0) hx hb dX11_divisor_15 (by decide) ?_
      refine tb_lcmp2 hx hb dX11_divisor_16 (fun x3 tx3 ux3 => ?_)
      have J26 : ∀ (H : Heap) (locs : List Loc) (ls : Array Slot) (y4 : Int64), (TW D cy κ G H) → (va_S (AA κ) s.heap H locs) → (lv_has ls 10 [(4, .long y2), (0, .long p0), (2, .long p1)]) → (∀ d : Int, d ∣ y2.toInt → d ∣ p0.toInt) → (∀ d : Int, d ∣ y4.toInt → d ∣ p1.toInt) → W p l e rmX11_divisor s m args below meth c H locs 0 0 Q (F0 m 26 ls [.long y4]) := by
        intro H locs ls y4 hT hS hl fJ26_0 fJ26_1
        refine lv_lstore (lv' := [(6, .long y4), (4, .long y2), (0, .long p0), (2, .long p1)]) hx hb dX11_divisor_26 hl (by decide) rfl (fun ls hl => ?_)
        have L28 : ∀ (nn : Nat) (H : Heap) (locs : List Loc) (ls : Array Slot) (y5 : Int64) (y6 : Int64), (nn = y5.toInt.natAbs) → (TW D cy κ G H) → (va_S (AA κ) s.heap H locs) → (lv_has ls 10 [(6, .long y5), (4, .long y6), (0, .long p0), (2, .long p1)]) → (∀ d : Int, d ∣ y6.toInt → d ∣ y5.toInt → d ∣ p0.toInt ∧ d ∣ p1.toInt) → W p l e rmX11_divisor s m args below meth c H locs 0 0 Q (F0 m 28 ls []) := by
          intro nn
          induction nn using Nat.strongRecOn with
          | _ nn ih28 =>
            intro H locs ls y5 y6 hnn hT hS hl fL28_0
            refine lv_lload hx hb dX11_divisor_28 (lv_at hl 0 rfl) ?_
            refine lv_lconst (v := 0) hx hb dX11_divisor_30 (by decide) ?_
            refine tb_lcmp2 hx hb dX11_divisor_31 (fun x7 tx7 ux7 => ?_)
            refine tb_if_eq (tgt := 53) hx hb dX11_divisor_32 (by decide) (fun c8 => ?_) (fun c8 => ?_)
            · skip
              refine lv_lload hx hb dX11_divisor_53 (lv_at hl 1 rfl) ?_
              exact hret H locs ls 55 y6 G dX11_divisor_55 ⟨rfl, dvfin (fL28_0 y6.toInt (Int.dvd_refl _) (by rw [show y5.toInt = 0 by omega]; exact Int.dvd_zero _))⟩ hT hS
            · skip
              refine lv_lload hx hb dX11_divisor_35 (lv_at hl 1 rfl) ?_
              refine lv_lload hx hb dX11_divisor_37 (lv_at hl 0 rfl) ?_
              refine lv_lrem hx hb dX11_divisor_39 (ne64 (by omega)) ?_
              refine lv_topl (fun y9 ey9 => ?_)
              rw [lrem_eq] at ey9
              have ty9 : y9.toInt = (y6 % y5).toInt := by rw [ey9]
              have ny9 := rem64 ey9 (by omega)
              refine lv_lstore (lv' := [(8, .long y9), (6, .long y5), (4, .long y6), (0, .long p0), (2, .long p1)]) hx hb dX11_divisor_40 hl (by decide) rfl (fun ls hl => ?_)
              refine lv_lload hx hb dX11_divisor_42 (lv_at hl 1 rfl) ?_
              refine lv_lstore (lv' := [(4, .long y5), (8, .long y9), (6, .long y5), (0, .long p0), (2, .long p1)]) hx hb dX11_divisor_44 hl (by decide) rfl (fun ls hl => ?_)
              refine lv_lload hx hb dX11_divisor_46 (lv_at hl 1 rfl) ?_
              refine lv_lstore (lv' := [(6, .long y9), (4, .long y5), (8, .long y9), (0, .long p0), (2, .long p1)]) hx hb dX11_divisor_48 hl (by decide) rfl (fun ls hl => ?_)
              refine lv_goto (tgt := 28) hx hb dX11_divisor_50 (by decide) ?_
              exact ih28 (y9.toInt.natAbs) (by omega) H locs ls y9 y5 rfl hT hS (lv_sub hl [0, 1, 3, 4] rfl) (gcd_step ey9 fL28_0)
        exact L28 _ H locs ls y4 y2 rfl hT hS (lv_sub hl [0, 1, 2, 3] rfl) (fun d h1 h2 => ⟨fJ26_0 d h1, fJ26_1 d h2⟩)
      refine tb_if_ge (tgt := 25) hx hb dX11_divisor_17 (by decide) (fun c10 => ?_) (fun c10 => ?_)
      · skip
        refine lv_lload_n hx hb dX11_divisor_25 rfl (lv_at hl 2 rfl) ?_
        exact J26 H locs ls p1 hT hS (lv_sub hl [0, 1, 2] rfl) fJ12_0 (fun d hd => hd)
      · skip
        refine lv_lload_n hx hb dX11_divisor_20 rfl (lv_at hl 2 rfl) ?_
        refine lv_lneg hx hb dX11_divisor_21 ?_
        refine lv_topl (fun y11 ey11 => ?_)
        have ty11 : y11.toInt = 0 ↔ p1.toInt = 0 := by rw [ey11]; exact neg64 p1
        refine lv_goto (tgt := 26) hx hb dX11_divisor_22 (by decide) ?_
        exact J26 H locs ls y11 hT hS (lv_sub hl [0, 1, 2] rfl) fJ12_0 (neg64dvd ey11)
    refine tb_if_ge (tgt := 11) hx hb dX11_divisor_3 (by decide) (fun c12 => ?_) (fun c12 => ?_)
    · skip
      refine lv_lload_n hx hb dX11_divisor_11 rfl (lv_at hl 0 rfl) ?_
      exact J12 H locs ls p0 hT hS (lv_sub hl [0, 1] rfl) (fun d hd => hd)
    · skip
      refine lv_lload_n hx hb dX11_divisor_6 rfl (lv_at hl 0 rfl) ?_
      refine lv_lneg hx hb dX11_divisor_7 ?_
      refine lv_topl (fun y13 ey13 => ?_)
      have ty13 : y13.toInt = 0 ↔ p0.toInt = 0 := by rw [ey13]; exact neg64 p0
      refine lv_goto (tgt := 12) hx hb dX11_divisor_8 (by decide) ?_
      exact J12 H locs ls y13 hT hS (lv_sub hl [0, 1] rfl) (neg64dvd ey13)
  exact main s.heap [] hT va_S.rf

abbrev rmX11_told : Room := { frames := 1, cells := 0, slots := 0, locals := 29 }
set_option maxHeartbeats 4000000 in
set_option maxRecDepth 100000 in
theorem c_X11_told (l : Launch) (D : va_G) (cy : Nat → ClassId) (κ : Nat → Nat) (G : Gh) (p0 : Int64) (p1 : Int64) (p2 : Int32) : Met l yX11_told wsX11_told rmX11_told (va_Pc [.long p0, .long p1, .int p2] (fun U => WW D cy κ G U)) (va_Ql (fun (r : Int64) (u : Gh) => u = G ∧ (True)) (fun u t => WW D cy κ u t) (AA κ)) 0 0 (AA κ) := by
  refine Met.twl (cc := cX11_told) (maxL := 7) (by decide) rfl (Nat.le_of_ble_eq_true rfl) ?_
  intro p e s m args below meth c Q hx hb hml hown hts hK hT hret ls hl
  have hl : lv_has ls 7 [(0, .long p0), (2, .long p1), (4, .int p2)] := hl
  have hlc0 : (0 : Int64).toInt = 0 := rfl
  have hlc1 : (1 : Int64).toInt = 1 := rfl
  have hkl141 := hts (.constantLong RX11 141 (-1)) (by decide +kernel)
  have hlk141 : (-1 : Int64).toInt = -1 := rfl
  have main : ∀ (H : Heap) (locs : List Loc), TW D cy κ G H → va_S (AA κ) s.heap H locs → W p l e rmX11_told s m args below meth c H locs 0 0 Q (F0 m 0 ls []) := by
    intro H locs hT hS
    refine lv_lload_n hx hb dX11_told_0 rfl (lv_at hl 0 rfl) ?_
    refine lv_lconst (v := 0) hx hb dX11_told_1 (by decide) ?_
    refine tb_lcmp2 hx hb dX11_told_2 (fun x1 tx1 ux1 => ?_)
    refine tb_if_ne (tgt := 10) hx hb dX11_told_3 (by decide) (fun c2 => ?_) (fun c2 => ?_)
    · skip
      refine lv_lload_n hx hb dX11_told_10 rfl (lv_at hl 0 rfl) ?_
      refine lv_lload_n hx hb dX11_told_11 rfl (lv_at hl 1 rfl) ?_
      refine tw_Sl (As := [.long p0, .long p1]) (rest := []) ⟨hx, hb, hml, hown, hts⟩ (c_X11_divisor l D cy κ G p0 p1) (va_cwS 2 hts gX11_told_X11_divisor rfl rfl rfl (by decide +kernel) ⟨Nat.le_of_ble_eq_true rfl, Nat.le_of_ble_eq_true rfl⟩) hK hT hS rfl hl.1 rfl (Nat.le_of_ble_eq_true rfl) dX11_told_12 ⟨Nat.zero_le _, Nat.zero_le _⟩ (fun y3 u4 H locs hpu4 hT hS => ?_)
      obtain ⟨huu4, qu4⟩ := hpu4
      rw [huu4] at hT
      refine lv_lload_n hx hb dX11_told_15 rfl (lv_at hl 1 rfl) ?_
      refine lv_lconst (v := 0) hx hb dX11_told_16 (by decide) ?_
      refine tb_lcmp2 hx hb dX11_told_17 (fun x5 tx5 ux5 => ?_)
      have J28 : ∀ (H : Heap) (locs : List Loc) (ls : Array Slot) (y6 : Int64), (TW D cy κ G H) → (va_S (AA κ) s.heap H locs) → (lv_has ls 7 [(0, .long p0), (2, .long p1), (4, .int p2)]) → (y6.toInt = 1 ∨ y6.toInt = -1) → W p l e rmX11_told s m args below meth c H locs 0 0 Q (F0 m 28 ls [.long y6, .long y3]) := by
        intro H locs ls y6 hT hS hl fJ28_0
        refine lv_lmul hx hb dX11_told_28 ?_
        refine lv_topl (fun y7 ey7 => ?_)
        have ny7 := mulpm ey7 (by omega)
        refine lv_lstore (lv' := [(5, .long y7), (0, .long p0), (2, .long p1), (4, .int p2)]) hx hb dX11_told_29 hl (by decide) rfl (fun ls hl => ?_)
        refine lv_iload hx hb dX11_told_31 (lv_at hl 3 rfl) ?_
        refine tb_if_ne (tgt := 43) hx hb dX11_told_33 (by decide) (fun c8 => ?_) (fun c8 => ?_)
        · skip
          refine lv_lload_n hx hb dX11_told_43 rfl (lv_at hl 2 rfl) ?_
          refine lv_lload hx hb dX11_told_44 (lv_at hl 0 rfl) ?_
          refine lv_ldiv hx hb dX11_told_46 (ne64 (by omega)) ?_
          refine lv_topl (fun y9 ey9 => ?_)
          have ty9 : y9.toInt = (p1 / y7).toInt := by rw [ey9]
          exact hret H locs ls 47 y9 G dX11_told_47 ⟨rfl, trivial⟩ hT hS
        · skip
          refine lv_lload_n hx hb dX11_told_36 rfl (lv_at hl 1 rfl) ?_
          refine lv_lload hx hb dX11_told_37 (lv_at hl 0 rfl) ?_
          refine lv_ldiv hx hb dX11_told_39 (ne64 (by omega)) ?_
          refine lv_topl (fun y10 ey10 => ?_)
          have ty10 : y10.toInt = (p0 / y7).toInt := by rw [ey10]
          refine lv_goto (tgt := 47) hx hb dX11_told_40 (by decide) ?_
          exact hret H locs ls 47 y10 G dX11_told_47 ⟨rfl, trivial⟩ hT hS
      refine tb_if_ge (tgt := 27) hx hb dX11_told_18 (by decide) (fun c11 => ?_) (fun c11 => ?_)
      · skip
        refine lv_lconst (v := 1) hx hb dX11_told_27 (by decide) ?_
        exact J28 H locs ls (1 : Int64) hT hS (lv_sub hl [0, 1, 2] rfl) (by omega)
      · skip
        refine lv_ldc2 hx hb hown hkl141 dX11_told_21 ?_
        refine lv_goto (tgt := 28) hx hb dX11_told_24 (by decide) ?_
        exact J28 H locs ls (-1 : Int64) hT hS (lv_sub hl [0, 1, 2] rfl) (by omega)
    · skip
      refine lv_iload hx hb dX11_told_6 (lv_at hl 2 rfl) ?_
      refine lv_i2l hx hb dX11_told_8 rfl ?_
      refine lv_topl (fun y12 ey12 => ?_)
      have ty12 : y12.toInt = p2.toInt := by rw [ey12]; exact Int32.toInt_toInt64 p2
      exact hret H locs ls 9 y12 G dX11_told_9 ⟨rfl, trivial⟩ hT hS
  exact main s.heap [] hT va_S.rf

abbrev rmX11_stretchOf : Room := { frames := 2, cells := 0, slots := 0, locals := 55 }
set_option maxHeartbeats 4000000 in
set_option maxRecDepth 100000 in
theorem c_X11_stretchOf (l : Launch) (D : va_G) (cy : Nat → ClassId) (κ : Nat → Nat) (G : Gh) (p0 : Nat) (k0 : κ p0 = 12) (p1 : Int32) (p2 : Int32) : Met l yX11_stretchOf wsX11_stretchOf rmX11_stretchOf (va_Pc [.ref p0, .int p1, .int p2] (fun U => WW D cy κ G U)) (va_Ql (fun (r : Int64) (u : Gh) => u = G ∧ (True)) (fun u t => WW D cy κ u t) (AA κ)) 0 0 (AA κ) := by
  refine Met.twl (cc := cX11_stretchOf) (maxL := 3) (by decide) rfl (Nat.le_of_ble_eq_true rfl) ?_
  intro p e s m args below meth c Q hx hb hml hown hts hK hT hret ls hl
  have hl : lv_has ls 3 [(0, .ref p0), (1, .int p1), (2, .int p2)] := hl
  have hfl120 := hts (.fieldLink RX11 120 "PlyPlatesModel" "below" "J") (by decide +kernel)
  have hin11 : ∀ w ∈ u_ws RX11 TX11 31, w ∈ wsX11_stretchOf := by decide +kernel
  have hlc0 : (0 : Int64).toInt = 0 := rfl
  have hc1 : (1 : Int32).toInt = 1 := rfl
  have hfl130 := hts (.fieldLink RX11 130 "PlyPlatesModel" "es" "J") (by decide +kernel)
  have hfl127 := hts (.fieldLink RX11 127 "PlyPlatesModel" "ey" "J") (by decide +kernel)
  have hfl124 := hts (.fieldLink RX11 124 "PlyPlatesModel" "ex" "J") (by decide +kernel)
  have hkl112 := hts (.constantLong RX11 112 (-9223372036854775808)) (by decide +kernel)
  have hlk112 : (-9223372036854775808 : Int64).toInt = -9223372036854775808 := rfl
  have main : ∀ (H : Heap) (locs : List Loc), TW D cy κ G H → va_S (AA κ) s.heap H locs → W p l e rmX11_stretchOf s m args below meth c H locs 0 0 Q (F0 m 0 ls []) := by
    intro H locs hT hS
    refine lv_aload_n hx hb dX11_stretchOf_0 rfl (lv_at hl 0 rfl) ?_
    refine gf_11_24 hx hb hts hin11 hown hK hT k0 hfl120 dX11_stretchOf_1 (fun y1 ky1 fvy1 => ?_)
    refine lv_lconst (v := 0) hx hb dX11_stretchOf_4 (by decide) ?_
    refine tb_lcmp2 hx hb dX11_stretchOf_5 (fun x2 tx2 ux2 => ?_)
    refine tb_if_ne (tgt := 13) hx hb dX11_stretchOf_6 (by decide) (fun c3 => ?_) (fun c3 => ?_)
    · skip
      refine lv_iload_n hx hb dX11_stretchOf_13 rfl (lv_at hl 1 rfl) ?_
      have J40 : ∀ (H : Heap) (locs : List Loc) (ls : Array Slot) (y4 : Int64), (TW D cy κ G H) → (va_S (AA κ) s.heap H locs) → (lv_has ls 3 [(0, .ref p0), (1, .int p1), (2, .int p2)]) → W p l e rmX11_stretchOf s m args below meth c H locs 0 0 Q (F0 m 40 ls [.long y4]) := by
        intro H locs ls y4 hT hS hl 
        refine lv_aload_n hx hb dX11_stretchOf_40 rfl (lv_at hl 0 rfl) ?_
        refine gf_11_24 hx hb hts hin11 hown hK hT k0 hfl120 dX11_stretchOf_41 (fun y5 ky5 fvy5 => ?_)
        refine lv_iload_n hx hb dX11_stretchOf_44 rfl (lv_at hl 2 rfl) ?_
        refine tw_Sl (As := [.long y4, .long y5, .int p2]) (rest := []) ⟨hx, hb, hml, hown, hts⟩ (c_X11_told l D cy κ G y4 y5 p2) (va_cwS 3 hts gX11_stretchOf_X11_told rfl rfl rfl (by decide +kernel) ⟨Nat.le_of_ble_eq_true rfl, Nat.le_of_ble_eq_true rfl⟩) hK hT hS rfl hl.1 rfl (Nat.le_of_ble_eq_true rfl) dX11_stretchOf_45 ⟨Nat.zero_le _, Nat.zero_le _⟩ (fun y6 u7 H locs hpu7 hT hS => ?_)
        obtain ⟨huu7, qu7⟩ := hpu7
        rw [huu7] at hT
        exact hret H locs ls 48 y6 G dX11_stretchOf_48 ⟨rfl, trivial⟩ hT hS
      refine tb_if_ne (tgt := 24) hx hb dX11_stretchOf_14 (by decide) (fun c8 => ?_) (fun c8 => ?_)
      · skip
        refine lv_iload_n hx hb dX11_stretchOf_24 rfl (lv_at hl 1 rfl) ?_
        refine lv_iconst (v := (1 : Int32)) hx hb dX11_stretchOf_25 (by decide) ?_
        refine tb_icmp_ne (tgt := 36) hx hb dX11_stretchOf_26 (by decide) (fun c9 => ?_) (fun c9 => ?_)
        · skip
          refine lv_aload_n hx hb dX11_stretchOf_36 rfl (lv_at hl 0 rfl) ?_
          refine gf_11_23 hx hb hts hin11 hown hK hT k0 hfl130 dX11_stretchOf_37 (fun y10 ky10 fvy10 => ?_)
          exact J40 H locs ls y10 hT hS (lv_sub hl [0, 1, 2] rfl) 
        · skip
          refine lv_aload_n hx hb dX11_stretchOf_29 rfl (lv_at hl 0 rfl) ?_
          refine gf_11_22 hx hb hts hin11 hown hK hT k0 hfl127 dX11_stretchOf_30 (fun y11 ky11 fvy11 => ?_)
          refine lv_goto (tgt := 40) hx hb dX11_stretchOf_33 (by decide) ?_
          exact J40 H locs ls y11 hT hS (lv_sub hl [0, 1, 2] rfl) 
      · skip
        refine lv_aload_n hx hb dX11_stretchOf_17 rfl (lv_at hl 0 rfl) ?_
        refine gf_11_21 hx hb hts hin11 hown hK hT k0 hfl124 dX11_stretchOf_18 (fun y12 ky12 fvy12 => ?_)
        refine lv_goto (tgt := 40) hx hb dX11_stretchOf_21 (by decide) ?_
        exact J40 H locs ls y12 hT hS (lv_sub hl [0, 1, 2] rfl) 
    · skip
      refine lv_ldc2 hx hb hown hkl112 dX11_stretchOf_9 ?_
      exact hret H locs ls 12 (-9223372036854775808 : Int64) G dX11_stretchOf_12 ⟨rfl, trivial⟩ hT hS
  exact main s.heap [] hT va_S.rf

abbrev rmX11_stretch : Room := { frames := 4, cells := 0, slots := 0, locals := 131 }
set_option maxHeartbeats 4000000 in
set_option maxRecDepth 100000 in
theorem c_X11_stretch (l : Launch) (D : va_G) (cy : Nat → ClassId) (κ : Nat → Nat) (G : Gh) (p0 : Nat) (k0 : κ p0 = 12) (p1 : Int32) (p2 : Int32) (p3 : Int32) (p4 : Int32) (p5 : Int32) (p6 : Int32) : Met l yX11_stretch wsX11_stretch rmX11_stretch (va_Pc [.ref p0, .int p1, .int p2, .int p3, .int p4, .int p5, .int p6] (fun U => WW D cy κ G U)) (va_Ql (fun (r : Int64) (u : Gh) => u = G ∧ (True)) (fun u t => WW D cy κ u t) (AA κ)) 0 0 (AA κ) := by
  refine Met.twl (cc := cX11_stretch) (maxL := 7) (by decide) rfl (Nat.le_of_ble_eq_true rfl) ?_
  intro p e s m args below meth c Q hx hb hml hown hts hK hT hret ls hl
  have hl : lv_has ls 7 [(0, .ref p0), (1, .int p1), (2, .int p2), (3, .int p3), (4, .int p4), (5, .int p5), (6, .int p6)] := hl
  have hkl112 := hts (.constantLong RX11 112 (-9223372036854775808)) (by decide +kernel)
  have hlk112 : (-9223372036854775808 : Int64).toInt = -9223372036854775808 := rfl
  have hc0 : (0 : Int32).toInt = 0 := rfl
  have hc2 : (2 : Int32).toInt = 2 := rfl
  have hc1 : (1 : Int32).toInt = 1 := rfl
  have hkl150 := hts (.constantLong RX11 150 (4)) (by decide +kernel)
  have hlk150 : (4 : Int64).toInt = 4 := rfl
  have main : ∀ (H : Heap) (locs : List Loc), TW D cy κ G H → va_S (AA κ) s.heap H locs → W p l e rmX11_stretch s m args below meth c H locs 0 0 Q (F0 m 0 ls []) := by
    intro H locs hT hS
    refine lv_aload_n hx hb dX11_stretch_0 rfl (lv_at hl 0 rfl) ?_
    refine lv_iload_n hx hb dX11_stretch_1 rfl (lv_at hl 1 rfl) ?_
    refine tw_Vi (q := (RX11, TX11, 31)) (As := [.int p1]) (rest := []) ⟨hx, hb, hml, hown, hts⟩ (c_X11_isPlate l D cy κ G p0 k0 p1) (cwV 1 hts gX11_stretch_X11_isPlate rfl rfl rfl (by decide +kernel) ⟨Nat.le_of_ble_eq_true rfl, Nat.le_of_ble_eq_true rfl⟩) hK hT hS k0 (by decide) rfl rfl hl.1 rfl (Nat.le_of_ble_eq_true rfl) dX11_stretch_2 ⟨Nat.zero_le _, Nat.zero_le _⟩ (fun x1 u2 H locs hpu2 hT hS => ?_)
    obtain ⟨huu2, qu2⟩ := hpu2
    rw [huu2] at hT
    refine tb_if_eq (tgt := 38) hx hb dX11_stretch_5 (by decide) (fun c3 => ?_) (fun c3 => ?_)
    · skip
      refine lv_ldc2 hx hb hown hkl112 dX11_stretch_38 ?_
      exact hret H locs ls 41 (-9223372036854775808 : Int64) G dX11_stretch_41 ⟨rfl, trivial⟩ hT hS
    · skip
      have wp1_c3 : 0 ≤ p1.toInt ∧ p1.toInt ≤ 3 := by omega
      clear qu2
      refine lv_iload_n hx hb dX11_stretch_8 rfl (lv_at hl 2 rfl) ?_
      refine lv_iload_n hx hb dX11_stretch_9 rfl (lv_at hl 3 rfl) ?_
      refine lv_iload hx hb dX11_stretch_10 (lv_at hl 4 rfl) ?_
      refine tw_Si (As := [.int p2, .int p3, .int p4]) (rest := []) ⟨hx, hb, hml, hown, hts⟩ (c_X11_isLoad l D cy κ G p2 p3 p4) (va_cwS 3 hts gX11_stretch_X11_isLoad rfl rfl rfl (by decide +kernel) ⟨Nat.le_of_ble_eq_true rfl, Nat.le_of_ble_eq_true rfl⟩) hK hT hS rfl hl.1 rfl (Nat.le_of_ble_eq_true rfl) dX11_stretch_12 ⟨Nat.zero_le _, Nat.zero_le _⟩ (fun x4 u5 H locs hpu5 hT hS => ?_)
      obtain ⟨huu5, qu5⟩ := hpu5
      rw [huu5] at hT
      refine tb_if_eq (tgt := 38) hx hb dX11_stretch_15 (by decide) (fun c6 => ?_) (fun c6 => ?_)
      · skip
        refine lv_ldc2 hx hb hown hkl112 dX11_stretch_38 ?_
        exact hret H locs ls 41 (-9223372036854775808 : Int64) G dX11_stretch_41 ⟨rfl, trivial⟩ hT hS
      · skip
        have wp2_c6 : -100 ≤ p2.toInt ∧ p2.toInt ≤ 100 := by omega
        have wp3_c6 : -100 ≤ p3.toInt ∧ p3.toInt ≤ 100 := by omega
        have wp4_c6 : -100 ≤ p4.toInt ∧ p4.toInt ≤ 100 := by omega
        clear qu5
        refine lv_iload hx hb dX11_stretch_18 (lv_at hl 5 rfl) ?_
        refine lv_iconst (v := (0 : Int32)) hx hb dX11_stretch_20 (by decide) ?_
        refine lv_iconst (v := (2 : Int32)) hx hb dX11_stretch_21 (by decide) ?_
        refine tw_Si (As := [.int p5, .int (0 : Int32), .int (2 : Int32)]) (rest := []) ⟨hx, hb, hml, hown, hts⟩ (c_X11_isIn l D cy κ G p5 (0 : Int32) (2 : Int32)) (va_cwS 3 hts gX11_stretch_X11_isIn rfl rfl rfl (by decide +kernel) ⟨Nat.le_of_ble_eq_true rfl, Nat.le_of_ble_eq_true rfl⟩) hK hT hS rfl hl.1 rfl (Nat.le_of_ble_eq_true rfl) dX11_stretch_22 ⟨Nat.zero_le _, Nat.zero_le _⟩ (fun x7 u8 H locs hpu8 hT hS => ?_)
        obtain ⟨huu8, qu8⟩ := hpu8
        rw [huu8] at hT
        refine tb_if_eq (tgt := 38) hx hb dX11_stretch_25 (by decide) (fun c9 => ?_) (fun c9 => ?_)
        · skip
          refine lv_ldc2 hx hb hown hkl112 dX11_stretch_38 ?_
          exact hret H locs ls 41 (-9223372036854775808 : Int64) G dX11_stretch_41 ⟨rfl, trivial⟩ hT hS
        · skip
          have wp5_c9 : 0 ≤ p5.toInt ∧ p5.toInt ≤ 2 := by omega
          clear qu8
          refine lv_iload hx hb dX11_stretch_28 (lv_at hl 6 rfl) ?_
          refine lv_iconst (v := (0 : Int32)) hx hb dX11_stretch_30 (by decide) ?_
          refine lv_iconst (v := (1 : Int32)) hx hb dX11_stretch_31 (by decide) ?_
          refine tw_Si (As := [.int p6, .int (0 : Int32), .int (1 : Int32)]) (rest := []) ⟨hx, hb, hml, hown, hts⟩ (c_X11_isIn l D cy κ G p6 (0 : Int32) (1 : Int32)) (va_cwS 3 hts gX11_stretch_X11_isIn rfl rfl rfl (by decide +kernel) ⟨Nat.le_of_ble_eq_true rfl, Nat.le_of_ble_eq_true rfl⟩) hK hT hS rfl hl.1 rfl (Nat.le_of_ble_eq_true rfl) dX11_stretch_32 ⟨Nat.zero_le _, Nat.zero_le _⟩ (fun x10 u11 H locs hpu11 hT hS => ?_)
          obtain ⟨huu11, qu11⟩ := hpu11
          rw [huu11] at hT
          refine tb_if_ne (tgt := 42) hx hb dX11_stretch_35 (by decide) (fun c12 => ?_) (fun c12 => ?_)
          · skip
            have wp6_c12 : 0 ≤ p6.toInt ∧ p6.toInt ≤ 1 := by omega
            clear qu11
            refine lv_aload_n hx hb dX11_stretch_42 rfl (lv_at hl 0 rfl) ?_
            refine lv_iload_n hx hb dX11_stretch_43 rfl (lv_at hl 1 rfl) ?_
            refine lv_ldc2 hx hb hown hkl150 dX11_stretch_44 ?_
            refine lv_iload_n hx hb dX11_stretch_47 rfl (lv_at hl 2 rfl) ?_
            refine lv_i2l hx hb dX11_stretch_48 rfl ?_
            refine lv_topl (fun y13 ey13 => ?_)
            have ty13 : y13.toInt = p2.toInt := by rw [ey13]; exact Int32.toInt_toInt64 p2
            refine lv_lmul hx hb dX11_stretch_49 ?_
            refine lv_topl (fun y14 ey14 => ?_)
            refine lv_ldc2 hx hb hown hkl150 dX11_stretch_50 ?_
            refine lv_iload_n hx hb dX11_stretch_53 rfl (lv_at hl 3 rfl) ?_
            refine lv_i2l hx hb dX11_stretch_54 rfl ?_
            refine lv_topl (fun y15 ey15 => ?_)
            have ty15 : y15.toInt = p3.toInt := by rw [ey15]; exact Int32.toInt_toInt64 p3
            refine lv_lmul hx hb dX11_stretch_55 ?_
            refine lv_topl (fun y16 ey16 => ?_)
            refine lv_ldc2 hx hb hown hkl150 dX11_stretch_56 ?_
            refine lv_iload hx hb dX11_stretch_59 (lv_at hl 4 rfl) ?_
            refine lv_i2l hx hb dX11_stretch_61 rfl ?_
            refine lv_topl (fun y17 ey17 => ?_)
            have ty17 : y17.toInt = p4.toInt := by rw [ey17]; exact Int32.toInt_toInt64 p4
            refine lv_lmul hx hb dX11_stretch_62 ?_
            refine lv_topl (fun y18 ey18 => ?_)
            refine tw_Vv (q := (RX11, TX11, 31)) (As := [.int p1, .long y14, .long y16, .long y18]) (rest := []) ⟨hx, hb, hml, hown, hts⟩ (c_X11_solve l D cy κ G p0 k0 p1 (by omega) y14 y16 y18) (cwV 4 hts gX11_stretch_X11_solve rfl rfl rfl (by decide +kernel) ⟨Nat.le_of_ble_eq_true rfl, Nat.le_of_ble_eq_true rfl⟩) hK hT hS k0 (by decide) rfl rfl hl.1 rfl (Nat.le_of_ble_eq_true rfl) dX11_stretch_63 ⟨Nat.zero_le _, Nat.zero_le _⟩ (fun u20 H locs hpu20 hT hS => ?_)
            obtain ⟨huu20, qu20⟩ := hpu20
            rw [huu20] at hT
            refine lv_aload_n hx hb dX11_stretch_66 rfl (lv_at hl 0 rfl) ?_
            refine lv_iload hx hb dX11_stretch_67 (lv_at hl 5 rfl) ?_
            refine lv_iload hx hb dX11_stretch_69 (lv_at hl 6 rfl) ?_
            refine tw_Vl (q := (RX11, TX11, 31)) (As := [.int p5, .int p6]) (rest := []) ⟨hx, hb, hml, hown, hts⟩ (c_X11_stretchOf l D cy κ G p0 k0 p5 p6) (cwV 2 hts gX11_stretch_X11_stretchOf rfl rfl rfl (by decide +kernel) ⟨Nat.le_of_ble_eq_true rfl, Nat.le_of_ble_eq_true rfl⟩) hK hT hS k0 (by decide) rfl rfl hl.1 rfl (Nat.le_of_ble_eq_true rfl) dX11_stretch_71 ⟨Nat.zero_le _, Nat.zero_le _⟩ (fun y21 u22 H locs hpu22 hT hS => ?_)
            obtain ⟨huu22, qu22⟩ := hpu22
            rw [huu22] at hT
            exact hret H locs ls 74 y21 G dX11_stretch_74 ⟨rfl, trivial⟩ hT hS
          · skip
            refine lv_ldc2 hx hb hown hkl112 dX11_stretch_38 ?_
            exact hret H locs ls 41 (-9223372036854775808 : Int64) G dX11_stretch_41 ⟨rfl, trivial⟩ hT hS
  exact main s.heap [] hT va_S.rf
