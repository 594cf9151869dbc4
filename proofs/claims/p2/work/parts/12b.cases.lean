abbrev rmX1_put : Room := { frames := 0, cells := 0, slots := 0, locals := 0 }
set_option maxHeartbeats 4000000 in
set_option maxRecDepth 100000 in
theorem c_X1_put (l : Launch) (D : va_G) (cy : Nat → ClassId) (κ : Nat → Nat) (G : Gh) (p0 : Nat) (k0 : κ p0 = 2) (p1 : Int32) (p2 : Int32) (p3 : Int32) (hc : (G.1 2).toInt < 4) : Met l yX1_put wsX1_put rmX1_put (va_Pc [.ref p0, .int p1, .int p2, .int p3] (fun U => WW D cy κ G U)) (va_Qv (fun u : Gh => ∃ x : Int32, x.toInt = (G.1 2).toInt + 1 ∧ u = cG G 2 x) (fun u t => WW D cy κ u t) (AA κ)) 0 0 (AA κ) := by
  refine Met.twv (cc := cX1_put) (maxL := 4) (by decide) rfl (Nat.le_of_ble_eq_true rfl) ?_
  intro p e s m args below meth c Q hx hb hml hown hts hK hT hret ls hl
  have hl : lv_has ls 4 [(0, .ref p0), (1, .int p1), (2, .int p2), (3, .int p3)] := hl
  have hfl16 := hts (.fieldLink RX1 16 "PlyPlates$Cases" "size" "I") (by decide +kernel)
  have hin1 : ∀ w ∈ u_ws RX1 TX1 2, w ∈ wsX1_put := by decide +kernel
  have hc4 : (4 : Int32).toInt = 4 := rfl
  have hfl11 := hts (.fieldLink RX1 11 "PlyPlates$Cases" "pulls" "[[I") (by decide +kernel)
  have hc0 : (0 : Int32).toInt = 0 := rfl
  have hc1 : (1 : Int32).toInt = 1 := rfl
  have hc2 : (2 : Int32).toInt = 2 := rfl
  have main : ∀ (H : Heap) (locs : List Loc), TW D cy κ G H → va_S (AA κ) s.heap H locs → W p l e rmX1_put s m args below meth c H locs 0 0 Q (F0 m 0 ls []) := by
    intro H locs hT hS
    refine lv_aload_n hx hb dX1_put_0 rfl (lv_at hl 0 rfl) ?_
    refine gf_1_1 hx hb hts hin1 hown hK hT k0 hfl16 dX1_put_1 (fun x1 kx1 fvx1 => ?_)
    have gx1 := congrArg Int32.toInt kx1.1
    refine lv_iconst (v := (4 : Int32)) hx hb dX1_put_4 (by decide) ?_
    refine tb_icmp_ge (tgt := 54) hx hb dX1_put_5 (by decide) (fun c2 => ?_) (fun c2 => ?_)
    · skip
      exact hret H locs ls 54 G dX1_put_54 (by exfalso; omega) hT hS
    · skip
      refine lv_aload_n hx hb dX1_put_8 rfl (lv_at hl 0 rfl) ?_
      refine gf_1_0 hx hb hts hin1 hown hK hT k0 hfl11 dX1_put_9 (fun a3 ka3 fva3 => ?_)
      refine lv_aload_n hx hb dX1_put_12 rfl (lv_at hl 0 rfl) ?_
      refine gf_1_1 hx hb hts hin1 hown hK hT k0 hfl16 dX1_put_13 (fun x4 kx4 fvx4 => ?_)
      have gx4 := congrArg Int32.toInt kx4.1
      obtain rfl : x1 = x4 := eInt (FV.eq fvx1 fvx4)
      refine tw_ra (K := 22) (t := 5) (ty := .array .int) (n := 4) (P := fun b => κ b = 1003) hx hb hK hT ka3 (by decide) rfl rfl rfl rfl (by omega) rfl dX1_put_16 (fun a5 ka5 fva5 => ?_)
      refine lv_iconst (v := (0 : Int32)) hx hb dX1_put_17 (by decide) ?_
      refine lv_iload_n hx hb dX1_put_18 rfl (lv_at hl 1 rfl) ?_
      refine tw_ias (K := 1003) (n := 3) (P := fun _ => True) hx hb hK hT hS ka5 (by decide) rfl rfl (by omega) rfl trivial dX1_put_19 (fun H locs hT hS hq => ?_)
      refine lv_aload_n hx hb dX1_put_20 rfl (lv_at hl 0 rfl) ?_
      refine gf_1_0 hx hb hts hin1 hown hK hT k0 hfl11 dX1_put_21 (fun a6 ka6 fva6 => ?_)
      refine lv_aload_n hx hb dX1_put_24 rfl (lv_at hl 0 rfl) ?_
      refine gf_1_1 hx hb hts hin1 hown hK hT k0 hfl16 dX1_put_25 (fun x7 kx7 fvx7 => ?_)
      have gx7 := congrArg Int32.toInt kx7.1
      refine tw_ra (K := 22) (t := 5) (ty := .array .int) (n := 4) (P := fun b => κ b = 1003) hx hb hK hT ka6 (by decide) rfl rfl rfl rfl (by omega) rfl dX1_put_28 (fun a8 ka8 fva8 => ?_)
      refine lv_iconst (v := (1 : Int32)) hx hb dX1_put_29 (by decide) ?_
      refine lv_iload_n hx hb dX1_put_30 rfl (lv_at hl 2 rfl) ?_
      refine tw_ias (K := 1003) (n := 3) (P := fun _ => True) hx hb hK hT hS ka8 (by decide) rfl rfl (by omega) rfl trivial dX1_put_31 (fun H locs hT hS hq => ?_)
      refine lv_aload_n hx hb dX1_put_32 rfl (lv_at hl 0 rfl) ?_
      refine gf_1_0 hx hb hts hin1 hown hK hT k0 hfl11 dX1_put_33 (fun a9 ka9 fva9 => ?_)
      refine lv_aload_n hx hb dX1_put_36 rfl (lv_at hl 0 rfl) ?_
      refine gf_1_1 hx hb hts hin1 hown hK hT k0 hfl16 dX1_put_37 (fun x10 kx10 fvx10 => ?_)
      have gx10 := congrArg Int32.toInt kx10.1
      refine tw_ra (K := 22) (t := 5) (ty := .array .int) (n := 4) (P := fun b => κ b = 1003) hx hb hK hT ka9 (by decide) rfl rfl rfl rfl (by omega) rfl dX1_put_40 (fun a11 ka11 fva11 => ?_)
      refine lv_iconst (v := (2 : Int32)) hx hb dX1_put_41 (by decide) ?_
      refine lv_iload_n hx hb dX1_put_42 rfl (lv_at hl 3 rfl) ?_
      refine tw_ias (K := 1003) (n := 3) (P := fun _ => True) hx hb hK hT hS ka11 (by decide) rfl rfl (by omega) rfl trivial dX1_put_43 (fun H locs hT hS hq => ?_)
      refine lv_aload_n hx hb dX1_put_44 rfl (lv_at hl 0 rfl) ?_
      refine lv_dup hx hb dX1_put_45 rfl ?_
      refine gf_1_1 hx hb hts hin1 hown hK hT k0 hfl16 dX1_put_46 (fun x12 kx12 fvx12 => ?_)
      have gx12 := congrArg Int32.toInt kx12.1
      refine lv_iconst (v := (1 : Int32)) hx hb dX1_put_49 (by decide) ?_
      refine lv_iadd hx hb dX1_put_50 ?_
      refine lv_topi (fun x13 ex13 => ?_)
      have tx13 : x13.toInt = x12.toInt + (1 : Int32).toInt := by rw [ex13]; exact ti_add (by have := i32b x12; have := i32b (1 : Int32); omega)
      refine pc_1_1 hx hb hts hin1 hown hK hT hS k0 hfl16 dX1_put_51 (by omega) (fun H locs hT hS => ?_)
      have hg2_13 : ((cG G 2 x13).1 2).toInt = x13.toInt := rfl
      exact hret H locs ls 54 (cG G 2 x13) dX1_put_54 ⟨x13, by omega, rfl⟩ hT hS
  exact main s.heap [] hT va_S.rf
