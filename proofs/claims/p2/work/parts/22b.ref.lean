abbrev rmX11_firstOf : Room := { frames := 3, cells := 0, slots := 0, locals := 75 }
set_option maxHeartbeats 4000000 in
set_option maxRecDepth 100000 in
theorem c_X11_firstOf (l : Launch) (D : va_G) (cy : Nat → ClassId) (κ : Nat → Nat) (G : Gh) (p0 : Nat) (k0 : κ p0 = 12) (p1 : Int32) (q1 : 0 ≤ p1.toInt ∧ p1.toInt ≤ 4) : Met l yX11_firstOf wsX11_firstOf rmX11_firstOf (va_Pc [.ref p0, .int p1] (fun U => WW D cy κ G U)) (va_Qi (fun (r : Int32) (u : Gh) => fG u G ∧ ((r.toInt = -1 ∨ okF G p1.toInt r.toInt) ∧ (r.toInt = -1 ∨ 1 ≤ (u.1 7).toInt) ∧ (r.toInt = -1 ∨ (u.2 0).toInt ≠ 0))) (fun u t => WW D cy κ u t) (AA κ)) 0 0 (AA κ) := by
  refine Met.twi (cc := cX11_firstOf) (maxL := 7) (by decide) rfl (Nat.le_of_ble_eq_true rfl) ?_
  intro p e s m args below meth c Q hx hb hml hown hts hK hT hret ls hl
  have hl : lv_has ls 7 [(0, .ref p0), (1, .int p1)] := hl
  have hcm1 : (-1 : Int32).toInt = -1 := rfl
  have hc0 : (0 : Int32).toInt = 0 := rfl
  have hfl35 := hts (.fieldLink RX11 35 "PlyPlatesModel" "many" "[I") (by decide +kernel)
  have hin11 : ∀ w ∈ u_ws RX11 TX11 31, w ∈ wsX11_firstOf := by decide +kernel
  have hfl120 := hts (.fieldLink RX11 120 "PlyPlatesModel" "below" "J") (by decide +kernel)
  have hlc0 : (0 : Int64).toInt = 0 := rfl
  have hc5 : (5 : Int32).toInt = 5 := rfl
  have hc1 : (1 : Int32).toInt = 1 := rfl
  have hc10 : (10 : Int32).toInt = 10 := rfl
  have hfl169 := hts (.fieldLink RX11 169 "PlyPlatesModel" "firstShare" "J") (by decide +kernel)
  have hfl172 := hts (.fieldLink RX11 172 "PlyPlatesModel" "firstStrength" "I") (by decide +kernel)
  have main : ∀ (H : Heap) (locs : List Loc), TW D cy κ G H → va_S (AA κ) s.heap H locs → W p l e rmX11_firstOf s m args below meth c H locs 0 0 Q (F0 m 0 ls []) := by
    intro H locs hT hS
    have hk9 := TW.k9 hT k0
    refine lv_iconst (v := (-1 : Int32)) hx hb dX11_firstOf_0 (by decide) ?_
    refine lv_istore_n (lv' := [(2, .int (-1 : Int32)), (0, .ref p0), (1, .int p1)]) hx hb dX11_firstOf_1 rfl hl (by decide) rfl (fun ls hl => ?_)
    refine lv_iconst (v := (0 : Int32)) hx hb dX11_firstOf_2 (by decide) ?_
    refine lv_istore_n (lv' := [(3, .int (0 : Int32)), (2, .int (-1 : Int32)), (0, .ref p0), (1, .int p1)]) hx hb dX11_firstOf_3 rfl hl (by decide) rfl (fun ls hl => ?_)
    have L4 : ∀ (nn : Nat) (H : Heap) (locs : List Loc) (ls : Array Slot) (u1 : Gh) (x2 : Int32) (x3 : Int32), (nn = (2147483647 - x2.toInt).toNat) → (fG u1 G) → (TW D cy κ u1 H) → (va_S (AA κ) s.heap H locs) → (lv_has ls 7 [(3, .int x2), (2, .int x3), (0, .ref p0), (1, .int p1)]) → (0 ≤ x2.toInt ∧ x2.toInt ≤ 12) → (-1 ≤ x3.toInt ∧ x3.toInt ≤ 199) → (x3.toInt = -1 ∨ okF G p1.toInt x3.toInt) → (x3.toInt = -1 ∨ 1 ≤ (u1.1 7).toInt) → (x3.toInt = -1 ∨ (u1.2 0).toInt ≠ 0) → W p l e rmX11_firstOf s m args below meth c H locs 0 0 Q (F0 m 4 ls []) := by
      intro nn
      induction nn using Nat.strongRecOn with
      | _ nn ih4 =>
        intro H locs ls u1 x2 x3 hnn qu1 hT hS hl fL4_0 fL4_1 fL4_2 fL4_3 fL4_4
        have hk9 := TW.k9 hT k0
        refine lv_iload_n hx hb dX11_firstOf_4 rfl (lv_at hl 0 rfl) ?_
        refine lv_aload_n hx hb dX11_firstOf_5 rfl (lv_at hl 2 rfl) ?_
        refine gf_11_13 hx hb hts hin11 hown hK hT k0 hfl35 dX11_firstOf_6 (fun a4 ka4 fva4 => ?_)
        refine lv_iload_n hx hb dX11_firstOf_9 rfl (lv_at hl 3 rfl) ?_
        refine tw_ia (K := 50) (n := 5) (P := fun x => x = u1.1 (100 + p1.toInt.toNat) ∧ (0 ≤ x.toInt ∧ x.toInt ≤ 12) ∧ ((u1.1 3).toInt = 0 → x.toInt = 0)) hx hb hK hT ka4 (by decide) rfl rfl (by omega) rfl dX11_firstOf_10 (fun x5 kx5 fvx5 => ?_)
        have kx5 : x5 = u1.1 (100 + p1.toInt.toNat) ∧ (0 ≤ x5.toInt ∧ x5.toInt ≤ 12) ∧ ((u1.1 3).toInt = 0 → x5.toInt = 0) := kx5
        have gx5 := congrArg Int32.toInt kx5.1
        have rx5 := kx5.2
        have zz6 : (u1.1 (100 + p1.toInt.toNat)).toInt = (G.1 (100 + p1.toInt.toNat)).toInt := congrArg Int32.toInt (qu1 (100 + p1.toInt.toNat) (by omega))
        have zz7 : (u1.1 (3)).toInt = (G.1 (3)).toInt := congrArg Int32.toInt (qu1 (3) (by omega))
        refine tb_icmp_ge (tgt := 130) hx hb dX11_firstOf_11 (by decide) (fun c8 => ?_) (fun c8 => ?_)
        · skip
          refine lv_iload_n hx hb dX11_firstOf_130 rfl (lv_at hl 1 rfl) ?_
          exact hret H locs ls 131 x3 u1 dX11_firstOf_131 ⟨qu1, fL4_2, fL4_3, fL4_4⟩ hT hS
        · skip
          refine lv_aload_n hx hb dX11_firstOf_14 rfl (lv_at hl 2 rfl) ?_
          refine gf_11_24 hx hb hts hin11 hown hK hT k0 hfl120 dX11_firstOf_15 (fun y9 ky9 fvy9 => ?_)
          refine lv_lconst (v := 0) hx hb dX11_firstOf_18 (by decide) ?_
          refine tb_lcmp2 hx hb dX11_firstOf_19 (fun x10 tx10 ux10 => ?_)
          refine tb_if_eq (tgt := 130) hx hb dX11_firstOf_20 (by decide) (fun c11 => ?_) (fun c11 => ?_)
          · skip
            refine lv_iload_n hx hb dX11_firstOf_130 rfl (lv_at hl 1 rfl) ?_
            exact hret H locs ls 131 x3 u1 dX11_firstOf_131 ⟨qu1, fL4_2, fL4_3, fL4_4⟩ hT hS
          · skip
            refine lv_iconst (v := (0 : Int32)) hx hb dX11_firstOf_23 (by decide) ?_
            refine lv_istore (lv' := [(4, .int (0 : Int32)), (3, .int x2), (2, .int x3), (0, .ref p0), (1, .int p1)]) hx hb dX11_firstOf_24 hl (by decide) rfl (fun ls hl => ?_)
            have L26 : ∀ (nn : Nat) (H : Heap) (locs : List Loc) (ls : Array Slot) (u12 : Gh) (x13 : Int32) (x14 : Int32), (nn = (2147483647 - x13.toInt).toNat) → (fG u12 G) → (TW D cy κ u12 H) → (va_S (AA κ) s.heap H locs) → (lv_has ls 7 [(4, .int x13), (3, .int x2), (2, .int x14), (0, .ref p0), (1, .int p1)]) → (0 ≤ x13.toInt ∧ x13.toInt ≤ 5) → (-1 ≤ x14.toInt ∧ x14.toInt ≤ 199) → (x14.toInt = -1 ∨ okF G p1.toInt x14.toInt) → (x14.toInt = -1 ∨ 1 ≤ (u12.1 7).toInt) → (x14.toInt = -1 ∨ (u12.2 0).toInt ≠ 0) → W p l e rmX11_firstOf s m args below meth c H locs 0 0 Q (F0 m 26 ls []) := by
              intro nn
              induction nn using Nat.strongRecOn with
              | _ nn ih26 =>
                intro H locs ls u12 x13 x14 hnn qu12 hT hS hl fL26_0 fL26_1 fL26_2 fL26_3 fL26_4
                have hk9 := TW.k9 hT k0
                refine lv_iload hx hb dX11_firstOf_26 (lv_at hl 0 rfl) ?_
                refine lv_iconst (v := (5 : Int32)) hx hb dX11_firstOf_28 (by decide) ?_
                refine tb_icmp_ge (tgt := 124) hx hb dX11_firstOf_29 (by decide) (fun c15 => ?_) (fun c15 => ?_)
                · skip
                  obtain ⟨x16, ex16⟩ : ∃ z : Int32, z = x2 + (1 : Int32) := ⟨_, rfl⟩
                  refine lv_iinc (v := x16) (lv' := [(3, .int x16), (4, .int x13), (2, .int x14), (0, .ref p0), (1, .int p1)]) hx hb dX11_firstOf_124 hl (k := 1) rfl (by rw [ex16]; rfl) (by decide) rfl (fun ls hl => ?_)
                  have tx16 : x16.toInt = x2.toInt + 1 := by rw [ex16, ti_add (by have := i32b x2; have := i32b x13; have := i32b x14; have := i32b p1; omega), hc1]
                  refine lv_goto (tgt := 4) hx hb dX11_firstOf_127 (by decide) ?_
                  exact ih4 ((2147483647 - x16.toInt).toNat) (by have := i32b x16; have := i32b x13; have := i32b x14; have := i32b p1; omega) H locs ls u12 x16 x14 rfl qu12 hT hS (lv_sub hl [0, 2, 3, 4] rfl) (by omega) (by omega) (by assumption) (by assumption) (by assumption)
                · skip
                  refine lv_aload_n hx hb dX11_firstOf_32 rfl (lv_at hl 3 rfl) ?_
                  refine lv_iload_n hx hb dX11_firstOf_33 rfl (lv_at hl 4 rfl) ?_
                  refine lv_iload_n hx hb dX11_firstOf_34 rfl (lv_at hl 1 rfl) ?_
                  refine tw_Si (As := [.int p1, .int x2]) (rest := [.ref p0]) ⟨hx, hb, hml, hown, hts⟩ (c_X11_spot l D cy κ u12 p1 (by omega) x2 (by omega)) (va_cwS 2 hts gX11_firstOf_X11_spot rfl rfl rfl (by decide +kernel) ⟨Nat.le_of_ble_eq_true rfl, Nat.le_of_ble_eq_true rfl⟩) hK hT hS rfl hl.1 rfl (Nat.le_of_ble_eq_true rfl) dX11_firstOf_35 ⟨Nat.zero_le _, Nat.zero_le _⟩ (fun x17 u18 H locs hpu18 hT hS => ?_)
                  obtain ⟨huu18, qu18⟩ := hpu18
                  rw [huu18] at hT
                  refine lv_iload hx hb dX11_firstOf_38 (lv_at hl 0 rfl) ?_
                  refine tw_Vl (q := (RX11, TX11, 31)) (As := [.int x17, .int x13]) (rest := []) ⟨hx, hb, hml, hown, hts⟩ (c_X11_shareOf l D cy κ u12 p0 k0 x17 (by omega) x13 (by omega)) (cwV 2 hts gX11_firstOf_X11_shareOf rfl rfl rfl (by decide +kernel) ⟨Nat.le_of_ble_eq_true rfl, Nat.le_of_ble_eq_true rfl⟩) hK hT hS k0 (by decide) rfl rfl hl.1 rfl (Nat.le_of_ble_eq_true rfl) dX11_firstOf_40 ⟨Nat.zero_le _, Nat.zero_le _⟩ (fun y19 u20 H locs hpu20 hT hS => ?_)
                  obtain ⟨huu20, qu20⟩ := hpu20
                  rw [huu20] at hT
                  have zz21 : (u12.1 (200 + x17.toInt.toNat)).toInt = (G.1 (200 + x17.toInt.toNat)).toInt := congrArg Int32.toInt (qu12 (200 + x17.toInt.toNat) (by omega))
                  refine lv_lstore (lv' := [(5, .long y19), (4, .int x13), (3, .int x2), (2, .int x14), (0, .ref p0), (1, .int p1)]) hx hb dX11_firstOf_43 hl (by decide) rfl (fun ls hl => ?_)
                  refine lv_lload hx hb dX11_firstOf_45 (lv_at hl 0 rfl) ?_
                  refine lv_lconst (v := 0) hx hb dX11_firstOf_47 (by decide) ?_
                  refine tb_lcmp2 hx hb dX11_firstOf_48 (fun x22 tx22 ux22 => ?_)
                  have J118 : ∀ (H : Heap) (locs : List Loc) (ls : Array Slot) (u23 : Gh) (x24 : Int32), (fG u23 G) → (TW D cy κ u23 H) → (va_S (AA κ) s.heap H locs) → (lv_has ls 7 [(5, .long y19), (4, .int x13), (3, .int x2), (2, .int x24), (0, .ref p0), (1, .int p1)]) → (-1 ≤ x24.toInt ∧ x24.toInt ≤ 199) → (x24.toInt = -1 ∨ okF G p1.toInt x24.toInt) → (x24.toInt = -1 ∨ 1 ≤ (u23.1 7).toInt) → (x24.toInt = -1 ∨ (u23.2 0).toInt ≠ 0) → W p l e rmX11_firstOf s m args below meth c H locs 0 0 Q (F0 m 118 ls []) := by
                    intro H locs ls u23 x24 qu23 hT hS hl fJ118_0 fJ118_1 fJ118_2 fJ118_3
                    have hk9 := TW.k9 hT k0
                    obtain ⟨x25, ex25⟩ : ∃ z : Int32, z = x13 + (1 : Int32) := ⟨_, rfl⟩
                    refine lv_iinc (v := x25) (lv' := [(4, .int x25), (5, .long y19), (3, .int x2), (2, .int x24), (0, .ref p0), (1, .int p1)]) hx hb dX11_firstOf_118 hl (k := 1) rfl (by rw [ex25]; rfl) (by decide) rfl (fun ls hl => ?_)
                    have tx25 : x25.toInt = x13.toInt + 1 := by rw [ex25, ti_add (by have := i32b x13; have := i32b x2; have := i32b x24; have := i32b p1; omega), hc1]
                    refine lv_goto (tgt := 26) hx hb dX11_firstOf_121 (by decide) ?_
                    exact ih26 ((2147483647 - x25.toInt).toNat) (by have := i32b x25; have := i32b x2; have := i32b x24; have := i32b p1; omega) H locs ls u23 x25 x24 rfl qu23 hT hS (lv_sub hl [0, 2, 3, 4, 5] rfl) (by omega) (by omega) (by assumption) (by assumption) (by assumption)
                  refine tb_if_eq (tgt := 118) hx hb dX11_firstOf_49 (by decide) (fun c26 => ?_) (fun c26 => ?_)
                  · skip
                    exact J118 H locs ls u12 x14 qu12 hT hS (lv_sub hl [0, 1, 2, 3, 4, 5] rfl) (by omega) (by assumption) (by assumption) (by assumption)
                  · skip
                    refine lv_iload_n hx hb dX11_firstOf_52 rfl (lv_at hl 3 rfl) ?_
                    refine lv_iconst (v := (-1 : Int32)) hx hb dX11_firstOf_53 (by decide) ?_
                    have J89 : ∀ (H : Heap) (locs : List Loc) (ls : Array Slot) (u27 : Gh) , (fG u27 G) → (TW D cy κ u27 H) → (va_S (AA κ) s.heap H locs) → (lv_has ls 7 [(5, .long y19), (4, .int x13), (3, .int x2), (2, .int x14), (0, .ref p0), (1, .int p1)]) → W p l e rmX11_firstOf s m args below meth c H locs 0 0 Q (F0 m 89 ls []) := by
                      intro H locs ls u27 qu27 hT hS hl 
                      have hk9 := TW.k9 hT k0
                      refine lv_bipush (v := (10 : Int32)) hx hb dX11_firstOf_89 (by decide) ?_
                      refine lv_iload_n hx hb dX11_firstOf_91 rfl (lv_at hl 2 rfl) ?_
                      refine lv_imul hx hb dX11_firstOf_92 ?_
                      refine lv_topi (fun x28 ex28 => ?_)
                      have tx28 : x28.toInt = 10 * x2.toInt := by rw [ex28, ti_mul (by rw [hc10]; have := i32b (10 : Int32); have := i32b x2; omega), hc10]
                      refine lv_iload hx hb dX11_firstOf_93 (lv_at hl 1 rfl) ?_
                      refine lv_iadd hx hb dX11_firstOf_95 ?_
                      refine lv_topi (fun x29 ex29 => ?_)
                      have tx29 : x29.toInt = x28.toInt + x13.toInt := by rw [ex29]; exact ti_add (by have := i32b x28; have := i32b x13; omega)
                      refine lv_istore_n (lv' := [(2, .int x29), (5, .long y19), (4, .int x13), (3, .int x2), (0, .ref p0), (1, .int p1)]) hx hb dX11_firstOf_96 rfl hl (by decide) rfl (fun ls hl => ?_)
                      refine lv_aload_n hx hb dX11_firstOf_97 rfl (lv_at hl 4 rfl) ?_
                      refine lv_lload hx hb dX11_firstOf_98 (lv_at hl 1 rfl) ?_
                      refine pc_11_25 hx hb hts hin11 hown hK hT hS k0 hfl169 dX11_firstOf_100 trivial (fun H locs hT hS => ?_)
                      obtain ⟨u30, eu30⟩ : ∃ u : Gh, u = cL u27 y19 := ⟨_, rfl⟩
                      rw [← eu30] at hT
                      have au30 : (u30.2 0).toInt = y19.toInt := by rw [eu30, cL_at]
                      have bu30 : ∀ j, u30.1 j = u27.1 j := fun j => by rw [eu30]; rfl
                      refine lv_aload_n hx hb dX11_firstOf_103 rfl (lv_at hl 4 rfl) ?_
                      refine lv_aload_n hx hb dX11_firstOf_104 rfl (lv_at hl 4 rfl) ?_
                      refine lv_iload_n hx hb dX11_firstOf_105 rfl (lv_at hl 5 rfl) ?_
                      refine lv_iload_n hx hb dX11_firstOf_106 rfl (lv_at hl 3 rfl) ?_
                      refine tw_Si (As := [.int p1, .int x2]) (rest := [.ref p0, .ref p0]) ⟨hx, hb, hml, hown, hts⟩ (c_X11_spot l D cy κ u30 p1 (by omega) x2 (by omega)) (va_cwS 2 hts gX11_firstOf_X11_spot rfl rfl rfl (by decide +kernel) ⟨Nat.le_of_ble_eq_true rfl, Nat.le_of_ble_eq_true rfl⟩) hK hT hS rfl hl.1 rfl (Nat.le_of_ble_eq_true rfl) dX11_firstOf_107 ⟨Nat.zero_le _, Nat.zero_le _⟩ (fun x31 u32 H locs hpu32 hT hS => ?_)
                      obtain ⟨huu32, qu32⟩ := hpu32
                      rw [huu32] at hT
                      refine lv_iload hx hb dX11_firstOf_110 (lv_at hl 2 rfl) ?_
                      have zz34 : (u30.1 (3)).toInt = (u27.1 (3)).toInt := congrArg Int32.toInt (bu30 (3))
                      have zz35 : (u27.1 (3)).toInt = (G.1 (3)).toInt := congrArg Int32.toInt (qu27 (3) (by omega))
                      refine tw_Vi (q := (RX11, TX11, 31)) (As := [.int x31, .int x13]) (rest := [.ref p0]) ⟨hx, hb, hml, hown, hts⟩ (c_X11_strengthOf l D cy κ u30 p0 k0 x31 (by omega) x13 (by omega) (by omega)) (cwV 2 hts gX11_firstOf_X11_strengthOf rfl rfl rfl (by decide +kernel) ⟨Nat.le_of_ble_eq_true rfl, Nat.le_of_ble_eq_true rfl⟩) hK hT hS k0 (by decide) rfl rfl hl.1 rfl (Nat.le_of_ble_eq_true rfl) dX11_firstOf_112 ⟨Nat.zero_le _, Nat.zero_le _⟩ (fun x33 u36 H locs hpu36 hT hS => ?_)
                      obtain ⟨huu36, qu36⟩ := hpu36
                      rw [huu36] at hT
                      refine pc_11_26 hx hb hts hin11 hown hK hT hS k0 hfl172 dX11_firstOf_115 trivial (fun H locs hT hS => ?_)
                      obtain ⟨u37, eu37⟩ : ∃ u : Gh, u = cG u30 (7) x33 := ⟨_, rfl⟩
                      rw [← eu37] at hT
                      have au37 : (u37.1 (7)).toInt = x33.toInt := by rw [eu37, cG_at]
                      have bu37 : ∀ j, j ≠ 7 → u37.1 j = u30.1 j := fun j hj => by rw [eu37]; exact if_neg hj
                      have du37 : u37.2 = u30.2 := by rw [eu37]; rfl
                      exact J118 H locs ls u37 x29 (fG.up bu37 du37 (by omega) (fG.upL bu30 qu27)) hT hS (lv_sub hl [1, 2, 3, 0, 4, 5] rfl) (by omega) (Or.inr (okF.mk (n := x17.toInt.toNat) (by omega) (by omega) (by omega) (by omega) (by omega))) (Or.inr (by omega)) (Or.inr (by rw [du37]; omega))
                    refine tb_icmp_eq (tgt := 89) hx hb dX11_firstOf_54 (by decide) (fun c38 => ?_) (fun c38 => ?_)
                    · skip
                      exact J89 H locs ls u12 qu12 hT hS (lv_sub hl [0, 1, 2, 3, 4, 5] rfl) 
                    · skip
                      refine lv_lload hx hb dX11_firstOf_57 (lv_at hl 0 rfl) ?_
                      refine lv_aload_n hx hb dX11_firstOf_59 rfl (lv_at hl 4 rfl) ?_
                      refine lv_iload_n hx hb dX11_firstOf_60 rfl (lv_at hl 5 rfl) ?_
                      refine lv_iload_n hx hb dX11_firstOf_61 rfl (lv_at hl 2 rfl) ?_
                      refine tw_Si (As := [.int p1, .int x2]) (rest := [.ref p0, .long y19]) ⟨hx, hb, hml, hown, hts⟩ (c_X11_spot l D cy κ u12 p1 (by omega) x2 (by omega)) (va_cwS 2 hts gX11_firstOf_X11_spot rfl rfl rfl (by decide +kernel) ⟨Nat.le_of_ble_eq_true rfl, Nat.le_of_ble_eq_true rfl⟩) hK hT hS rfl hl.1 rfl (Nat.le_of_ble_eq_true rfl) dX11_firstOf_62 ⟨Nat.zero_le _, Nat.zero_le _⟩ (fun x39 u40 H locs hpu40 hT hS => ?_)
                      obtain ⟨huu40, qu40⟩ := hpu40
                      rw [huu40] at hT
                      refine lv_iload hx hb dX11_firstOf_65 (lv_at hl 1 rfl) ?_
                      have zz42 : (u12.1 (3)).toInt = (G.1 (3)).toInt := congrArg Int32.toInt (qu12 (3) (by omega))
                      refine tw_Vi (q := (RX11, TX11, 31)) (As := [.int x39, .int x13]) (rest := [.long y19]) ⟨hx, hb, hml, hown, hts⟩ (c_X11_strengthOf l D cy κ u12 p0 k0 x39 (by omega) x13 (by omega) (by omega)) (cwV 2 hts gX11_firstOf_X11_strengthOf rfl rfl rfl (by decide +kernel) ⟨Nat.le_of_ble_eq_true rfl, Nat.le_of_ble_eq_true rfl⟩) hK hT hS k0 (by decide) rfl rfl hl.1 rfl (Nat.le_of_ble_eq_true rfl) dX11_firstOf_67 ⟨Nat.zero_le _, Nat.zero_le _⟩ (fun x41 u43 H locs hpu43 hT hS => ?_)
                      obtain ⟨huu43, qu43⟩ := hpu43
                      rw [huu43] at hT
                      refine lv_i2l hx hb dX11_firstOf_70 rfl ?_
                      refine lv_topl (fun y44 ey44 => ?_)
                      have ty44 : y44.toInt = x41.toInt := by rw [ey44]; exact Int32.toInt_toInt64 x41
                      refine lv_aload_n hx hb dX11_firstOf_71 rfl (lv_at hl 4 rfl) ?_
                      refine gf_11_25 hx hb hts hin11 hown hK hT k0 hfl169 dX11_firstOf_72 (fun y45 ky45 fvy45 => ?_)
                      have gy45 := congrArg Int64.toInt ky45
                      refine lv_aload_n hx hb dX11_firstOf_75 rfl (lv_at hl 4 rfl) ?_
                      refine gf_11_26 hx hb hts hin11 hown hK hT k0 hfl172 dX11_firstOf_76 (fun x46 kx46 fvx46 => ?_)
                      have gx46 := congrArg Int32.toInt kx46
                      refine lv_i2l hx hb dX11_firstOf_79 rfl ?_
                      refine lv_topl (fun y47 ey47 => ?_)
                      have ty47 : y47.toInt = x46.toInt := by rw [ey47]; exact Int32.toInt_toInt64 x46
                      refine tw_Si (As := [.long y19, .long y44, .long y45, .long y47]) (rest := []) ⟨hx, hb, hml, hown, hts⟩ (c_X11_isAbove l D cy κ u12 y19 y44 y45 y47 (by omega) (by omega)) (va_cwS 4 hts gX11_firstOf_X11_isAbove rfl rfl rfl (by decide +kernel) ⟨Nat.le_of_ble_eq_true rfl, Nat.le_of_ble_eq_true rfl⟩) hK hT hS rfl hl.1 rfl (Nat.le_of_ble_eq_true rfl) dX11_firstOf_80 ⟨Nat.zero_le _, Nat.zero_le _⟩ (fun x48 u49 H locs hpu49 hT hS => ?_)
                      obtain ⟨huu49, qu49⟩ := hpu49
                      rw [huu49] at hT
                      refine tb_if_ne (tgt := 89) hx hb dX11_firstOf_83 (by decide) (fun c50 => ?_) (fun c50 => ?_)
                      · skip
                        exact J89 H locs ls u12 qu12 hT hS (lv_sub hl [0, 1, 2, 3, 4, 5] rfl) 
                      · skip
                        refine lv_goto (tgt := 118) hx hb dX11_firstOf_86 (by decide) ?_
                        exact J118 H locs ls u12 x14 qu12 hT hS (lv_sub hl [0, 1, 2, 3, 4, 5] rfl) (by omega) (by assumption) (by assumption) (by assumption)
            exact L26 _ H locs ls u1 (0 : Int32) x3 rfl qu1 hT hS (lv_sub hl [0, 1, 2, 3, 4] rfl) (by omega) (by omega) (by assumption) (by assumption) (by assumption)
    exact L4 _ H locs ls G (0 : Int32) (-1 : Int32) rfl (fG.rf G) hT hS (lv_sub hl [0, 1, 2, 3] rfl) (by omega) (by omega) (Or.inl (by omega)) (Or.inl (by omega)) (Or.inl (by omega))
  exact main s.heap [] hT va_S.rf
