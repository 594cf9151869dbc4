abbrev rmX11_copies : Room := { frames := 2, cells := 0, slots := 0, locals := 47 }
set_option maxHeartbeats 4000000 in
set_option maxRecDepth 100000 in
theorem c_X11_copies (l : Launch) (D : va_G) (cy : Nat → ClassId) (κ : Nat → Nat) (G : Gh) (p0 : Nat) (k0 : κ p0 = 12) (p1 : Int32) (q1 : 0 ≤ p1.toInt ∧ p1.toInt ≤ 4) (p2 : Int32) (q2 : 0 ≤ p2.toInt ∧ p2.toInt ≤ 4) (hne : p1.toInt ≠ p2.toInt) : Met l yX11_copies wsX11_copies rmX11_copies (va_Pc [.ref p0, .int p1, .int p2] (fun U => WW D cy κ G U)) (va_Qv (fun u : Gh => midG u G ∧ (True)) (fun u t => WW D cy κ u t) (AA κ)) 0 0 (AA κ) := by
  refine Met.twv (cc := cX11_copies) (maxL := 4) (by decide) rfl (Nat.le_of_ble_eq_true rfl) ?_
  intro p e s m args below meth c Q hx hb hml hown hts hK hT hret ls hl
  have hl : lv_has ls 4 [(0, .ref p0), (1, .int p1), (2, .int p2)] := hl
  have hfl35 := hts (.fieldLink RX11 35 "PlyPlatesModel" "many" "[I") (by decide +kernel)
  have hin11 : ∀ w ∈ u_ws RX11 TX11 31, w ∈ wsX11_copies := by decide +kernel
  have hc0 : (0 : Int32).toInt = 0 := rfl
  have hfl38 := hts (.fieldLink RX11 38 "PlyPlatesModel" "stuff" "[I") (by decide +kernel)
  have hfl41 := hts (.fieldLink RX11 41 "PlyPlatesModel" "way" "[I") (by decide +kernel)
  have hfl44 := hts (.fieldLink RX11 44 "PlyPlatesModel" "thick" "[I") (by decide +kernel)
  have hfl47 := hts (.fieldLink RX11 47 "PlyPlatesModel" "broken" "[I") (by decide +kernel)
  have hc1 : (1 : Int32).toInt = 1 := rfl
  have main : ∀ (H : Heap) (locs : List Loc), TW D cy κ G H → va_S (AA κ) s.heap H locs → W p l e rmX11_copies s m args below meth c H locs 0 0 Q (F0 m 0 ls []) := by
    intro H locs hT hS
    have hk9 := TW.k9 hT k0
    refine lv_aload_n hx hb dX11_copies_0 rfl (lv_at hl 0 rfl) ?_
    refine gf_11_13 hx hb hts hin11 hown hK hT k0 hfl35 dX11_copies_1 (fun a1 ka1 fva1 => ?_)
    refine lv_iload_n hx hb dX11_copies_4 rfl (lv_at hl 2 rfl) ?_
    refine lv_iconst (v := (0 : Int32)) hx hb dX11_copies_5 (by decide) ?_
    refine ag_50 hx hb hK hT hS ka1 (by omega) dX11_copies_6 (by omega) (fun H locs hT hS => ?_)
    obtain ⟨u2, eu2⟩ : ∃ u : Gh, u = cG G (100 + p2.toInt.toNat) (0 : Int32) := ⟨_, rfl⟩
    rw [← eu2] at hT
    have au2 : (u2.1 (100 + p2.toInt.toNat)).toInt = (0 : Int32).toInt := by rw [eu2, cG_at]
    have bu2 : ∀ j, j ≠ 100 + p2.toInt.toNat → u2.1 j = G.1 j := fun j hj => by rw [eu2]; exact if_neg hj
    have du2 : u2.2 = G.2 := by rw [eu2]; rfl
    refine lv_iconst (v := (0 : Int32)) hx hb dX11_copies_7 (by decide) ?_
    refine lv_istore_n (lv' := [(3, .int (0 : Int32)), (0, .ref p0), (1, .int p1), (2, .int p2)]) hx hb dX11_copies_8 rfl hl (by decide) rfl (fun ls hl => ?_)
    have L9 : ∀ (nn : Nat) (H : Heap) (locs : List Loc) (ls : Array Slot) (u3 : Gh) (x4 : Int32), (nn = (2147483647 - x4.toInt).toNat) → (midG u3 G) → (TW D cy κ u3 H) → (va_S (AA κ) s.heap H locs) → (lv_has ls 4 [(3, .int x4), (0, .ref p0), (1, .int p1), (2, .int p2)]) → (0 ≤ x4.toInt ∧ x4.toInt ≤ 12) → ((u3.1 (100 + p2.toInt.toNat)).toInt = x4.toInt ∧ (u3.1 (100 + p1.toInt.toNat)).toInt = (G.1 (100 + p1.toInt.toNat)).toInt) → W p l e rmX11_copies s m args below meth c H locs 0 0 Q (F0 m 9 ls []) := by
      intro nn
      induction nn using Nat.strongRecOn with
      | _ nn ih9 =>
        intro H locs ls u3 x4 hnn qu3 hT hS hl fL9_0 fL9_1
        have hk9 := TW.k9 hT k0
        refine lv_iload_n hx hb dX11_copies_9 rfl (lv_at hl 0 rfl) ?_
        refine lv_aload_n hx hb dX11_copies_10 rfl (lv_at hl 1 rfl) ?_
        refine gf_11_13 hx hb hts hin11 hown hK hT k0 hfl35 dX11_copies_11 (fun a5 ka5 fva5 => ?_)
        refine lv_iload_n hx hb dX11_copies_14 rfl (lv_at hl 2 rfl) ?_
        refine tw_ia (K := 50) (n := 5) (P := fun x => x = u3.1 (100 + p1.toInt.toNat) ∧ (0 ≤ x.toInt ∧ x.toInt ≤ 12) ∧ ((u3.1 3).toInt = 0 → x.toInt = 0)) hx hb hK hT ka5 (by decide) rfl rfl (by omega) rfl dX11_copies_15 (fun x6 kx6 fvx6 => ?_)
        have kx6 : x6 = u3.1 (100 + p1.toInt.toNat) ∧ (0 ≤ x6.toInt ∧ x6.toInt ≤ 12) ∧ ((u3.1 3).toInt = 0 → x6.toInt = 0) := kx6
        have gx6 := congrArg Int32.toInt kx6.1
        have rx6 := kx6.2
        have zz7 : (u3.1 (3)).toInt = (G.1 (3)).toInt := congrArg Int32.toInt (qu3.1 (3) (by omega))
        refine tb_icmp_ge (tgt := 70) hx hb dX11_copies_16 (by decide) (fun c8 => ?_) (fun c8 => ?_)
        · skip
          exact hret H locs ls 70 u3 dX11_copies_70 ⟨qu3, trivial⟩ hT hS
        · skip
          refine lv_aload_n hx hb dX11_copies_19 rfl (lv_at hl 1 rfl) ?_
          refine lv_iload_n hx hb dX11_copies_20 rfl (lv_at hl 3 rfl) ?_
          refine lv_aload_n hx hb dX11_copies_21 rfl (lv_at hl 1 rfl) ?_
          refine gf_11_14 hx hb hts hin11 hown hK hT k0 hfl38 dX11_copies_22 (fun a9 ka9 fva9 => ?_)
          refine lv_iload_n hx hb dX11_copies_25 rfl (lv_at hl 2 rfl) ?_
          refine lv_iload_n hx hb dX11_copies_26 rfl (lv_at hl 0 rfl) ?_
          refine tw_Si (As := [.int p1, .int x4]) (rest := [.ref a9, .int p2, .ref p0]) ⟨hx, hb, hml, hown, hts⟩ (c_X11_spot l D cy κ u3 p1 (by omega) x4 (by omega)) (va_cwS 2 hts gX11_copies_X11_spot rfl rfl rfl (by decide +kernel) ⟨Nat.le_of_ble_eq_true rfl, Nat.le_of_ble_eq_true rfl⟩) hK hT hS rfl hl.1 rfl (Nat.le_of_ble_eq_true rfl) dX11_copies_27 ⟨Nat.zero_le _, Nat.zero_le _⟩ (fun x10 u11 H locs hpu11 hT hS => ?_)
          obtain ⟨huu11, qu11⟩ := hpu11
          rw [huu11] at hT
          refine tw_ia (K := 51) (n := 60) (P := fun x => (0 ≤ x.toInt ∧ x.toInt ≤ 2) ∧ (x.toInt = 0 ∨ x.toInt < (u3.1 3).toInt)) hx hb hK hT ka9 (by decide) rfl rfl (by omega) rfl dX11_copies_30 (fun x12 kx12 fvx12 => ?_)
          have kx12 : (0 ≤ x12.toInt ∧ x12.toInt ≤ 2) ∧ (x12.toInt = 0 ∨ x12.toInt < (u3.1 3).toInt) := kx12
          have zz13 : (u3.1 (3)).toInt = (G.1 (3)).toInt := congrArg Int32.toInt (qu3.1 (3) (by omega))
          refine lv_aload_n hx hb dX11_copies_31 rfl (lv_at hl 1 rfl) ?_
          refine gf_11_15 hx hb hts hin11 hown hK hT k0 hfl41 dX11_copies_32 (fun a14 ka14 fva14 => ?_)
          refine lv_iload_n hx hb dX11_copies_35 rfl (lv_at hl 2 rfl) ?_
          refine lv_iload_n hx hb dX11_copies_36 rfl (lv_at hl 0 rfl) ?_
          refine tw_Si (As := [.int p1, .int x4]) (rest := [.ref a14, .int x12, .int p2, .ref p0]) ⟨hx, hb, hml, hown, hts⟩ (c_X11_spot l D cy κ u3 p1 (by omega) x4 (by omega)) (va_cwS 2 hts gX11_copies_X11_spot rfl rfl rfl (by decide +kernel) ⟨Nat.le_of_ble_eq_true rfl, Nat.le_of_ble_eq_true rfl⟩) hK hT hS rfl hl.1 rfl (Nat.le_of_ble_eq_true rfl) dX11_copies_37 ⟨Nat.zero_le _, Nat.zero_le _⟩ (fun x15 u16 H locs hpu16 hT hS => ?_)
          obtain ⟨huu16, qu16⟩ := hpu16
          rw [huu16] at hT
          refine tw_ia (K := 1060) (n := 60) (P := fun _ => True) hx hb hK hT ka14 (by decide) rfl rfl (by omega) rfl dX11_copies_40 (fun x17 _ fvx17 => ?_)
          refine lv_aload_n hx hb dX11_copies_41 rfl (lv_at hl 1 rfl) ?_
          refine gf_11_16 hx hb hts hin11 hown hK hT k0 hfl44 dX11_copies_42 (fun a18 ka18 fva18 => ?_)
          refine lv_iload_n hx hb dX11_copies_45 rfl (lv_at hl 2 rfl) ?_
          refine lv_iload_n hx hb dX11_copies_46 rfl (lv_at hl 0 rfl) ?_
          refine tw_Si (As := [.int p1, .int x4]) (rest := [.ref a18, .int x17, .int x12, .int p2, .ref p0]) ⟨hx, hb, hml, hown, hts⟩ (c_X11_spot l D cy κ u3 p1 (by omega) x4 (by omega)) (va_cwS 2 hts gX11_copies_X11_spot rfl rfl rfl (by decide +kernel) ⟨Nat.le_of_ble_eq_true rfl, Nat.le_of_ble_eq_true rfl⟩) hK hT hS rfl hl.1 rfl (Nat.le_of_ble_eq_true rfl) dX11_copies_47 ⟨Nat.zero_le _, Nat.zero_le _⟩ (fun x19 u20 H locs hpu20 hT hS => ?_)
          obtain ⟨huu20, qu20⟩ := hpu20
          rw [huu20] at hT
          refine tw_ia (K := 1060) (n := 60) (P := fun _ => True) hx hb hK hT ka18 (by decide) rfl rfl (by omega) rfl dX11_copies_50 (fun x21 _ fvx21 => ?_)
          refine lv_aload_n hx hb dX11_copies_51 rfl (lv_at hl 1 rfl) ?_
          refine gf_11_17 hx hb hts hin11 hown hK hT k0 hfl47 dX11_copies_52 (fun a22 ka22 fva22 => ?_)
          refine lv_iload_n hx hb dX11_copies_55 rfl (lv_at hl 2 rfl) ?_
          refine lv_iload_n hx hb dX11_copies_56 rfl (lv_at hl 0 rfl) ?_
          refine tw_Si (As := [.int p1, .int x4]) (rest := [.ref a22, .int x21, .int x17, .int x12, .int p2, .ref p0]) ⟨hx, hb, hml, hown, hts⟩ (c_X11_spot l D cy κ u3 p1 (by omega) x4 (by omega)) (va_cwS 2 hts gX11_copies_X11_spot rfl rfl rfl (by decide +kernel) ⟨Nat.le_of_ble_eq_true rfl, Nat.le_of_ble_eq_true rfl⟩) hK hT hS rfl hl.1 rfl (Nat.le_of_ble_eq_true rfl) dX11_copies_57 ⟨Nat.zero_le _, Nat.zero_le _⟩ (fun x23 u24 H locs hpu24 hT hS => ?_)
          obtain ⟨huu24, qu24⟩ := hpu24
          rw [huu24] at hT
          refine tw_ia (K := 52) (n := 60) (P := fun x => x = u3.1 (200 + x23.toInt.toNat) ∧ (0 ≤ x.toInt ∧ x.toInt ≤ 2)) hx hb hK hT ka22 (by decide) rfl rfl (by omega) rfl dX11_copies_60 (fun x25 kx25 fvx25 => ?_)
          have kx25 : x25 = u3.1 (200 + x23.toInt.toNat) ∧ (0 ≤ x25.toInt ∧ x25.toInt ≤ 2) := kx25
          have gx25 := congrArg Int32.toInt kx25.1
          have rx25 := kx25.2
          have zz27 : (u3.1 (3)).toInt = (G.1 (3)).toInt := congrArg Int32.toInt (qu3.1 (3) (by omega))
          refine tw_Vv (q := (RX11, TX11, 31)) (As := [.int p2, .int x12, .int x17, .int x21, .int x25]) (rest := []) ⟨hx, hb, hml, hown, hts⟩ (c_X11_puts l D cy κ u3 p0 k0 p2 (by omega) x12 (by omega) x17 x21 x25 (by omega) (by omega) (by omega) (by omega)) (cwV 5 hts gX11_copies_X11_puts rfl rfl rfl (by decide +kernel) ⟨Nat.le_of_ble_eq_true rfl, Nat.le_of_ble_eq_true rfl⟩) hK hT hS k0 (by decide) rfl rfl hl.1 rfl (Nat.le_of_ble_eq_true rfl) dX11_copies_61 ⟨Nat.zero_le _, Nat.zero_le _⟩ (fun u28 H locs hpu28 hT hS => ?_)
          obtain ⟨qu28, ru28⟩ := hpu28
          have mu28 := qu28.2.2
          have zz29 : (u28.1 (100 + p1.toInt.toNat)).toInt = (u3.1 (100 + p1.toInt.toNat)).toInt := congrArg Int32.toInt (qu28.1 (100 + p1.toInt.toNat) (by omega) (by omega))
          have zz30 : (u28.1 (3)).toInt = (u3.1 (3)).toInt := congrArg Int32.toInt (qu28.1 (3) (by omega) (by omega))
          have zz31 : (u3.1 (3)).toInt = (G.1 (3)).toInt := congrArg Int32.toInt (qu3.1 (3) (by omega))
          obtain ⟨x32, ex32⟩ : ∃ z : Int32, z = x4 + (1 : Int32) := ⟨_, rfl⟩
          refine lv_iinc (v := x32) (lv' := [(3, .int x32), (0, .ref p0), (1, .int p1), (2, .int p2)]) hx hb dX11_copies_64 hl (k := 0) rfl (by rw [ex32]; rfl) (by decide) rfl (fun ls hl => ?_)
          have tx32 : x32.toInt = x4.toInt + 1 := by rw [ex32, ti_add (by have := i32b x4; have := i32b p1; have := i32b p2; omega), hc1]
          refine lv_goto (tgt := 9) hx hb dX11_copies_67 (by decide) ?_
          have zz33 : (u28.1 (100 + p1.toInt.toNat)).toInt = (u3.1 (100 + p1.toInt.toNat)).toInt := congrArg Int32.toInt (qu28.1 (100 + p1.toInt.toNat) (by omega) (by omega))
          exact ih9 ((2147483647 - x32.toInt).toNat) (by have := i32b x32; have := i32b p1; have := i32b p2; omega) H locs ls u28 x32 rfl (midG.tr_puts qu28 (by omega) qu3) hT hS (lv_sub hl [0, 1, 2, 3] rfl) (by omega) (by omega)
    have zz34 : (u2.1 (100 + p1.toInt.toNat)).toInt = (G.1 (100 + p1.toInt.toNat)).toInt := congrArg Int32.toInt (bu2 (100 + p1.toInt.toNat) (by omega))
    exact L9 _ H locs ls u2 (0 : Int32) rfl (midG.up bu2 du2 (by omega) (midG.rf G)) hT hS (lv_sub hl [0, 1, 2, 3] rfl) (by omega) (by omega)
  exact main s.heap [] hT va_S.rf

abbrev rmX11_last : Room := { frames := 1, cells := 0, slots := 0, locals := 39 }
set_option maxHeartbeats 4000000 in
set_option maxRecDepth 100000 in
theorem c_X11_last (l : Launch) (D : va_G) (cy : Nat → ClassId) (κ : Nat → Nat) (G : Gh) (p0 : Nat) (k0 : κ p0 = 12) : Met l yX11_last wsX11_last rmX11_last (va_Pc [.ref p0] (fun U => WW D cy κ G U)) (va_Qi (fun (r : Int32) (u : Gh) => u = G ∧ (True)) (fun u t => WW D cy κ u t) (AA κ)) 0 0 (AA κ) := by
  refine Met.twi (cc := cX11_last) (maxL := 3) (by decide) rfl (Nat.le_of_ble_eq_true rfl) ?_
  intro p e s m args below meth c Q hx hb hml hown hts hK hT hret ls hl
  have hl : lv_has ls 3 [(0, .ref p0)] := hl
  have hcm1 : (-1 : Int32).toInt = -1 := rfl
  have hc0 : (0 : Int32).toInt = 0 := rfl
  have hfl194 := hts (.fieldLink RX11 194 "PlyPlatesModel" "steps" "I") (by decide +kernel)
  have hin11 : ∀ w ∈ u_ws RX11 TX11 31, w ∈ wsX11_last := by decide +kernel
  have hc1 : (1 : Int32).toInt = 1 := rfl
  have hfl62 := hts (.fieldLink RX11 62 "PlyPlatesModel" "stepAbove" "[J") (by decide +kernel)
  have hfl66 := hts (.fieldLink RX11 66 "PlyPlatesModel" "stepBelow" "[J") (by decide +kernel)
  have main : ∀ (H : Heap) (locs : List Loc), TW D cy κ G H → va_S (AA κ) s.heap H locs → W p l e rmX11_last s m args below meth c H locs 0 0 Q (F0 m 0 ls []) := by
    intro H locs hT hS
    have hk9 := TW.k9 hT k0
    refine lv_iconst (v := (-1 : Int32)) hx hb dX11_last_0 (by decide) ?_
    refine lv_istore_n (lv' := [(1, .int (-1 : Int32)), (0, .ref p0)]) hx hb dX11_last_1 rfl hl (by decide) rfl (fun ls hl => ?_)
    refine lv_iconst (v := (0 : Int32)) hx hb dX11_last_2 (by decide) ?_
    refine lv_istore_n (lv' := [(2, .int (0 : Int32)), (1, .int (-1 : Int32)), (0, .ref p0)]) hx hb dX11_last_3 rfl hl (by decide) rfl (fun ls hl => ?_)
    have L4 : ∀ (nn : Nat) (H : Heap) (locs : List Loc) (ls : Array Slot) (x1 : Int32) (x2 : Int32), (nn = (2147483647 - x1.toInt).toNat) → (TW D cy κ G H) → (va_S (AA κ) s.heap H locs) → (lv_has ls 3 [(2, .int x1), (1, .int x2), (0, .ref p0)]) → (0 ≤ x1.toInt ∧ x1.toInt ≤ 24) → (-1 ≤ x2.toInt ∧ x2.toInt ≤ 23) → (x2.toInt = -1 ∨ 0 ≤ x2.toInt ∧ x2.toInt < (G.1 6).toInt) → W p l e rmX11_last s m args below meth c H locs 0 0 Q (F0 m 4 ls []) := by
      intro nn
      induction nn using Nat.strongRecOn with
      | _ nn ih4 =>
        intro H locs ls x1 x2 hnn hT hS hl fL4_0 fL4_1 fL4_2
        have hk9 := TW.k9 hT k0
        refine lv_iload_n hx hb dX11_last_4 rfl (lv_at hl 0 rfl) ?_
        refine lv_aload_n hx hb dX11_last_5 rfl (lv_at hl 2 rfl) ?_
        refine gf_11_30 hx hb hts hin11 hown hK hT k0 hfl194 dX11_last_6 (fun x3 kx3 fvx3 => ?_)
        have gx3 := congrArg Int32.toInt kx3.1
        refine tb_icmp_ge (tgt := 55) hx hb dX11_last_9 (by decide) (fun c4 => ?_) (fun c4 => ?_)
        · skip
          refine lv_iload_n hx hb dX11_last_55 rfl (lv_at hl 1 rfl) ?_
          exact hret H locs ls 56 x2 G dX11_last_56 ⟨rfl, trivial⟩ hT hS
        · skip
          refine lv_iload_n hx hb dX11_last_12 rfl (lv_at hl 1 rfl) ?_
          refine lv_iconst (v := (-1 : Int32)) hx hb dX11_last_13 (by decide) ?_
          have J49 : ∀ (H : Heap) (locs : List Loc) (ls : Array Slot) (x5 : Int32), (TW D cy κ G H) → (va_S (AA κ) s.heap H locs) → (lv_has ls 3 [(2, .int x1), (1, .int x5), (0, .ref p0)]) → (-1 ≤ x5.toInt ∧ x5.toInt ≤ 23) → (x5.toInt = -1 ∨ 0 ≤ x5.toInt ∧ x5.toInt < (G.1 6).toInt) → W p l e rmX11_last s m args below meth c H locs 0 0 Q (F0 m 49 ls []) := by
            intro H locs ls x5 hT hS hl fJ49_0 fJ49_1
            have hk9 := TW.k9 hT k0
            obtain ⟨x6, ex6⟩ : ∃ z : Int32, z = x1 + (1 : Int32) := ⟨_, rfl⟩
            refine lv_iinc (v := x6) (lv' := [(2, .int x6), (1, .int x5), (0, .ref p0)]) hx hb dX11_last_49 hl (k := 0) rfl (by rw [ex6]; rfl) (by decide) rfl (fun ls hl => ?_)
            have tx6 : x6.toInt = x1.toInt + 1 := by rw [ex6, ti_add (by have := i32b x1; have := i32b x5; omega), hc1]
            refine lv_goto (tgt := 4) hx hb dX11_last_52 (by decide) ?_
            exact ih4 ((2147483647 - x6.toInt).toNat) (by have := i32b x6; have := i32b x5; omega) H locs ls x6 x5 rfl hT hS (lv_sub hl [0, 1, 2] rfl) (by omega) (by omega) (by omega)
          have J47 : ∀ (H : Heap) (locs : List Loc) (ls : Array Slot) , (TW D cy κ G H) → (va_S (AA κ) s.heap H locs) → (lv_has ls 3 [(2, .int x1), (1, .int x2), (0, .ref p0)]) → W p l e rmX11_last s m args below meth c H locs 0 0 Q (F0 m 47 ls []) := by
            intro H locs ls  hT hS hl 
            have hk9 := TW.k9 hT k0
            refine lv_iload_n hx hb dX11_last_47 rfl (lv_at hl 0 rfl) ?_
            refine lv_istore_n (lv' := [(1, .int x1), (2, .int x1), (0, .ref p0)]) hx hb dX11_last_48 rfl hl (by decide) rfl (fun ls hl => ?_)
            exact J49 H locs ls x1 hT hS (lv_sub hl [1, 0, 2] rfl) (by omega) (by omega)
          refine tb_icmp_eq (tgt := 47) hx hb dX11_last_14 (by decide) (fun c7 => ?_) (fun c7 => ?_)
          · skip
            exact J47 H locs ls  hT hS (lv_sub hl [0, 1, 2] rfl) 
          · skip
            refine lv_aload_n hx hb dX11_last_17 rfl (lv_at hl 2 rfl) ?_
            refine gf_11_28 hx hb hts hin11 hown hK hT k0 hfl62 dX11_last_18 (fun a8 ka8 fva8 => ?_)
            refine lv_iload_n hx hb dX11_last_21 rfl (lv_at hl 0 rfl) ?_
            refine tw_la (K := 2030) (n := 30) (P := fun _ => True) hx hb hK hT ka8 (by decide) rfl rfl (by omega) rfl dX11_last_22 (fun y9 _ fvy9 => ?_)
            refine lv_aload_n hx hb dX11_last_23 rfl (lv_at hl 2 rfl) ?_
            refine gf_11_29 hx hb hts hin11 hown hK hT k0 hfl66 dX11_last_24 (fun a10 ka10 fva10 => ?_)
            refine lv_iload_n hx hb dX11_last_27 rfl (lv_at hl 0 rfl) ?_
            refine tw_la (K := 54) (n := 30) (P := fun x => ((x1.toInt.toNat : Nat) : Int) < (G.1 8).toInt → x.toInt ≠ 0) hx hb hK hT ka10 (by decide) rfl rfl (by omega) rfl dX11_last_28 (fun y11 ky11 fvy11 => ?_)
            have ky11 : ((x1.toInt.toNat : Nat) : Int) < (G.1 8).toInt → y11.toInt ≠ 0 := ky11
            refine lv_aload_n hx hb dX11_last_29 rfl (lv_at hl 2 rfl) ?_
            refine gf_11_28 hx hb hts hin11 hown hK hT k0 hfl62 dX11_last_30 (fun a12 ka12 fva12 => ?_)
            obtain rfl : a8 = a12 := eRef (FV.eq fva8 fva12)
            refine lv_iload_n hx hb dX11_last_33 rfl (lv_at hl 1 rfl) ?_
            refine tw_la (K := 2030) (n := 30) (P := fun _ => True) hx hb hK hT ka8 (by decide) rfl rfl (by omega) rfl dX11_last_34 (fun y13 _ fvy13 => ?_)
            refine lv_aload_n hx hb dX11_last_35 rfl (lv_at hl 2 rfl) ?_
            refine gf_11_29 hx hb hts hin11 hown hK hT k0 hfl66 dX11_last_36 (fun a14 ka14 fva14 => ?_)
            obtain rfl : a10 = a14 := eRef (FV.eq fva10 fva14)
            refine lv_iload_n hx hb dX11_last_39 rfl (lv_at hl 1 rfl) ?_
            refine tw_la (K := 54) (n := 30) (P := fun x => ((x2.toInt.toNat : Nat) : Int) < (G.1 8).toInt → x.toInt ≠ 0) hx hb hK hT ka10 (by decide) rfl rfl (by omega) rfl dX11_last_40 (fun y15 ky15 fvy15 => ?_)
            have ky15 : ((x2.toInt.toNat : Nat) : Int) < (G.1 8).toInt → y15.toInt ≠ 0 := ky15
            refine tw_Si (As := [.long y9, .long y11, .long y13, .long y15]) (rest := []) ⟨hx, hb, hml, hown, hts⟩ (c_X11_isAbove l D cy κ G y9 y11 y13 y15 (by omega) (by omega)) (va_cwS 4 hts gX11_last_X11_isAbove rfl rfl rfl (by decide +kernel) ⟨Nat.le_of_ble_eq_true rfl, Nat.le_of_ble_eq_true rfl⟩) hK hT hS rfl hl.1 rfl (Nat.le_of_ble_eq_true rfl) dX11_last_41 ⟨Nat.zero_le _, Nat.zero_le _⟩ (fun x16 u17 H locs hpu17 hT hS => ?_)
            obtain ⟨huu17, qu17⟩ := hpu17
            rw [huu17] at hT
            refine tb_if_eq (tgt := 49) hx hb dX11_last_44 (by decide) (fun c18 => ?_) (fun c18 => ?_)
            · skip
              exact J49 H locs ls x2 hT hS (lv_sub hl [0, 1, 2] rfl) (by omega) (by omega)
            · skip
              exact J47 H locs ls  hT hS (lv_sub hl [0, 1, 2] rfl) 
    exact L4 _ H locs ls (0 : Int32) (-1 : Int32) rfl hT hS (lv_sub hl [0, 1, 2] rfl) (by omega) (by omega) (by omega)
  exact main s.heap [] hT va_S.rf

abbrev rmX11_stuff : Room := { frames := 1, cells := 0, slots := 0, locals := 22 }
set_option maxHeartbeats 4000000 in
set_option maxRecDepth 100000 in
theorem c_X11_stuff (l : Launch) (D : va_G) (cy : Nat → ClassId) (κ : Nat → Nat) (G : Gh) (p0 : Nat) (k0 : κ p0 = 12) (p1 : Int32) (p2 : Int32) (p3 : Int32) (p4 : Int32) : Met l yX11_stuff wsX11_stuff rmX11_stuff (va_Pc [.ref p0, .int p1, .int p2, .int p3, .int p4] (fun U => WW D cy κ G U)) (va_Qi (fun (r : Int32) (u : Gh) => (u = G ∧ r.toInt = -2 ∧ (p1.toInt < 1 ∨ 200 < p1.toInt ∨ p2.toInt < 1 ∨ 200 < p2.toInt ∨ p3.toInt < 0 ∨ 200 < p3.toInt ∨ p4.toInt < 1 ∨ 200 < p4.toInt ∨ (p1 * p2).toInt ≤ (p3 * p3).toInt)) ∨ (u = G ∧ r.toInt = -4 ∧ (1 ≤ p1.toInt ∧ p1.toInt ≤ 200 ∧ 1 ≤ p2.toInt ∧ p2.toInt ≤ 200 ∧ 0 ≤ p3.toInt ∧ p3.toInt ≤ 200 ∧ 1 ≤ p4.toInt ∧ p4.toInt ≤ 200 ∧ (p3 * p3).toInt < (p1 * p2).toInt) ∧ 3 ≤ (G.1 3).toInt) ∨ ((1 ≤ p1.toInt ∧ p1.toInt ≤ 200 ∧ 1 ≤ p2.toInt ∧ p2.toInt ≤ 200 ∧ 0 ≤ p3.toInt ∧ p3.toInt ≤ 200 ∧ 1 ≤ p4.toInt ∧ p4.toInt ≤ 200 ∧ (p3 * p3).toInt < (p1 * p2).toInt) ∧ (G.1 3).toInt < 3 ∧ r.toInt = (G.1 3).toInt ∧ (u.1 3).toInt = (G.1 3).toInt + 1 ∧ ∀ i, i < 6 → i ≠ 3 → u.1 i = G.1 i)) (fun u t => WW D cy κ u t) (AA κ)) 0 0 (AA κ) := by
  refine Met.twi (cc := cX11_stuff) (maxL := 6) (by decide) rfl (Nat.le_of_ble_eq_true rfl) ?_
  intro p e s m args below meth c Q hx hb hml hown hts hK hT hret ls hl
  have hl : lv_has ls 6 [(0, .ref p0), (1, .int p1), (2, .int p2), (3, .int p3), (4, .int p4)] := hl
  have hc1 : (1 : Int32).toInt = 1 := rfl
  have hc200 : (200 : Int32).toInt = 200 := rfl
  have hcm2 : (-2 : Int32).toInt = -2 := rfl
  have hc0 : (0 : Int32).toInt = 0 := rfl
  have hfl73 := hts (.fieldLink RX11 73 "PlyPlatesModel" "stuffs" "I") (by decide +kernel)
  have hin11 : ∀ w ∈ u_ws RX11 TX11 31, w ∈ wsX11_stuff := by decide +kernel
  have hc3 : (3 : Int32).toInt = 3 := rfl
  have hfl13 := hts (.fieldLink RX11 13 "PlyPlatesModel" "q11" "[I") (by decide +kernel)
  have hfl17 := hts (.fieldLink RX11 17 "PlyPlatesModel" "q22" "[I") (by decide +kernel)
  have hfl20 := hts (.fieldLink RX11 20 "PlyPlatesModel" "q12" "[I") (by decide +kernel)
  have hfl23 := hts (.fieldLink RX11 23 "PlyPlatesModel" "q66" "[I") (by decide +kernel)
  have hc5 : (5 : Int32).toInt = 5 := rfl
  have hfl26 := hts (.fieldLink RX11 26 "PlyPlatesModel" "strengths" "[I") (by decide +kernel)
  have hc100 : (100 : Int32).toInt = 100 := rfl
  have hcm4 : (-4 : Int32).toInt = -4 := rfl
  have main : ∀ (H : Heap) (locs : List Loc), TW D cy κ G H → va_S (AA κ) s.heap H locs → W p l e rmX11_stuff s m args below meth c H locs 0 0 Q (F0 m 0 ls []) := by
    intro H locs hT hS
    have hk9 := TW.k9 hT k0
    refine lv_iload_n hx hb dX11_stuff_0 rfl (lv_at hl 1 rfl) ?_
    refine lv_iconst (v := (1 : Int32)) hx hb dX11_stuff_1 (by decide) ?_
    refine lv_sipush (v := (200 : Int32)) hx hb dX11_stuff_2 (by decide) ?_
    refine tw_Si (As := [.int p1, .int (1 : Int32), .int (200 : Int32)]) (rest := []) ⟨hx, hb, hml, hown, hts⟩ (c_X11_isIn l D cy κ G p1 (1 : Int32) (200 : Int32)) (va_cwS 3 hts gX11_stuff_X11_isIn rfl rfl rfl (by decide +kernel) ⟨Nat.le_of_ble_eq_true rfl, Nat.le_of_ble_eq_true rfl⟩) hK hT hS rfl hl.1 rfl (Nat.le_of_ble_eq_true rfl) dX11_stuff_5 ⟨Nat.zero_le _, Nat.zero_le _⟩ (fun x1 u2 H locs hpu2 hT hS => ?_)
    obtain ⟨huu2, qu2⟩ := hpu2
    rw [huu2] at hT
    refine tb_if_eq (tgt := 54) hx hb dX11_stuff_8 (by decide) (fun c3 => ?_) (fun c3 => ?_)
    · skip
      refine lv_bipush (v := (-2 : Int32)) hx hb dX11_stuff_54 (by decide) ?_
      exact hret H locs ls 56 (-2 : Int32) G dX11_stuff_56 (by first | exact Or.inl ⟨rfl, by omega, by omega⟩ | exact Or.inr (Or.inl ⟨rfl, by omega, by omega, by omega⟩)) hT hS
    · skip
      refine lv_iload_n hx hb dX11_stuff_11 rfl (lv_at hl 2 rfl) ?_
      refine lv_iconst (v := (1 : Int32)) hx hb dX11_stuff_12 (by decide) ?_
      refine lv_sipush (v := (200 : Int32)) hx hb dX11_stuff_13 (by decide) ?_
      refine tw_Si (As := [.int p2, .int (1 : Int32), .int (200 : Int32)]) (rest := []) ⟨hx, hb, hml, hown, hts⟩ (c_X11_isIn l D cy κ G p2 (1 : Int32) (200 : Int32)) (va_cwS 3 hts gX11_stuff_X11_isIn rfl rfl rfl (by decide +kernel) ⟨Nat.le_of_ble_eq_true rfl, Nat.le_of_ble_eq_true rfl⟩) hK hT hS rfl hl.1 rfl (Nat.le_of_ble_eq_true rfl) dX11_stuff_16 ⟨Nat.zero_le _, Nat.zero_le _⟩ (fun x4 u5 H locs hpu5 hT hS => ?_)
      obtain ⟨huu5, qu5⟩ := hpu5
      rw [huu5] at hT
      refine tb_if_eq (tgt := 54) hx hb dX11_stuff_19 (by decide) (fun c6 => ?_) (fun c6 => ?_)
      · skip
        refine lv_bipush (v := (-2 : Int32)) hx hb dX11_stuff_54 (by decide) ?_
        exact hret H locs ls 56 (-2 : Int32) G dX11_stuff_56 (by first | exact Or.inl ⟨rfl, by omega, by omega⟩ | exact Or.inr (Or.inl ⟨rfl, by omega, by omega, by omega⟩)) hT hS
      · skip
        refine lv_iload_n hx hb dX11_stuff_22 rfl (lv_at hl 3 rfl) ?_
        refine lv_iconst (v := (0 : Int32)) hx hb dX11_stuff_23 (by decide) ?_
        refine lv_sipush (v := (200 : Int32)) hx hb dX11_stuff_24 (by decide) ?_
        refine tw_Si (As := [.int p3, .int (0 : Int32), .int (200 : Int32)]) (rest := []) ⟨hx, hb, hml, hown, hts⟩ (c_X11_isIn l D cy κ G p3 (0 : Int32) (200 : Int32)) (va_cwS 3 hts gX11_stuff_X11_isIn rfl rfl rfl (by decide +kernel) ⟨Nat.le_of_ble_eq_true rfl, Nat.le_of_ble_eq_true rfl⟩) hK hT hS rfl hl.1 rfl (Nat.le_of_ble_eq_true rfl) dX11_stuff_27 ⟨Nat.zero_le _, Nat.zero_le _⟩ (fun x7 u8 H locs hpu8 hT hS => ?_)
        obtain ⟨huu8, qu8⟩ := hpu8
        rw [huu8] at hT
        refine tb_if_eq (tgt := 54) hx hb dX11_stuff_30 (by decide) (fun c9 => ?_) (fun c9 => ?_)
        · skip
          refine lv_bipush (v := (-2 : Int32)) hx hb dX11_stuff_54 (by decide) ?_
          exact hret H locs ls 56 (-2 : Int32) G dX11_stuff_56 (by first | exact Or.inl ⟨rfl, by omega, by omega⟩ | exact Or.inr (Or.inl ⟨rfl, by omega, by omega, by omega⟩)) hT hS
        · skip
          refine lv_iload hx hb dX11_stuff_33 (lv_at hl 4 rfl) ?_
          refine lv_iconst (v := (1 : Int32)) hx hb dX11_stuff_35 (by decide) ?_
          refine lv_sipush (v := (200 : Int32)) hx hb dX11_stuff_36 (by decide) ?_
          refine tw_Si (As := [.int p4, .int (1 : Int32), .int (200 : Int32)]) (rest := []) ⟨hx, hb, hml, hown, hts⟩ (c_X11_isIn l D cy κ G p4 (1 : Int32) (200 : Int32)) (va_cwS 3 hts gX11_stuff_X11_isIn rfl rfl rfl (by decide +kernel) ⟨Nat.le_of_ble_eq_true rfl, Nat.le_of_ble_eq_true rfl⟩) hK hT hS rfl hl.1 rfl (Nat.le_of_ble_eq_true rfl) dX11_stuff_39 ⟨Nat.zero_le _, Nat.zero_le _⟩ (fun x10 u11 H locs hpu11 hT hS => ?_)
          obtain ⟨huu11, qu11⟩ := hpu11
          rw [huu11] at hT
          refine tb_if_eq (tgt := 54) hx hb dX11_stuff_42 (by decide) (fun c12 => ?_) (fun c12 => ?_)
          · skip
            refine lv_bipush (v := (-2 : Int32)) hx hb dX11_stuff_54 (by decide) ?_
            exact hret H locs ls 56 (-2 : Int32) G dX11_stuff_56 (by first | exact Or.inl ⟨rfl, by omega, by omega⟩ | exact Or.inr (Or.inl ⟨rfl, by omega, by omega, by omega⟩)) hT hS
          · skip
            refine lv_iload_n hx hb dX11_stuff_45 rfl (lv_at hl 3 rfl) ?_
            refine lv_iload_n hx hb dX11_stuff_46 rfl (lv_at hl 3 rfl) ?_
            refine lv_imul hx hb dX11_stuff_47 ?_
            refine lv_topi (fun x13 ex13 => ?_)
            have tx13 : x13.toInt = (p3 * p3).toInt := by rw [ex13]
            refine lv_iload_n hx hb dX11_stuff_48 rfl (lv_at hl 1 rfl) ?_
            refine lv_iload_n hx hb dX11_stuff_49 rfl (lv_at hl 2 rfl) ?_
            refine lv_imul hx hb dX11_stuff_50 ?_
            refine lv_topi (fun x14 ex14 => ?_)
            have tx14 : x14.toInt = (p1 * p2).toInt := by rw [ex14]
            refine tb_icmp_lt (tgt := 57) hx hb dX11_stuff_51 (by decide) (fun c15 => ?_) (fun c15 => ?_)
            · skip
              refine lv_aload_n hx hb dX11_stuff_57 rfl (lv_at hl 0 rfl) ?_
              refine gf_11_0 hx hb hts hin11 hown hK hT k0 hfl73 dX11_stuff_58 (fun x16 kx16 fvx16 => ?_)
              have gx16 := congrArg Int32.toInt kx16.1
              refine lv_iconst (v := (3 : Int32)) hx hb dX11_stuff_61 (by decide) ?_
              refine tb_icmp_ne (tgt := 68) hx hb dX11_stuff_62 (by decide) (fun c17 => ?_) (fun c17 => ?_)
              · skip
                refine lv_aload_n hx hb dX11_stuff_68 rfl (lv_at hl 0 rfl) ?_
                refine gf_11_6 hx hb hts hin11 hown hK hT k0 hfl13 dX11_stuff_69 (fun a18 ka18 fva18 => ?_)
                refine lv_aload_n hx hb dX11_stuff_72 rfl (lv_at hl 0 rfl) ?_
                refine gf_11_0 hx hb hts hin11 hown hK hT k0 hfl73 dX11_stuff_73 (fun x19 kx19 fvx19 => ?_)
                have gx19 := congrArg Int32.toInt kx19.1
                obtain rfl : x16 = x19 := eInt (FV.eq fvx16 fvx19)
                refine lv_iload_n hx hb dX11_stuff_76 rfl (lv_at hl 1 rfl) ?_
                refine tw_ias (K := 1003) (n := 3) (P := fun _ => True) hx hb hK hT hS ka18 (by decide) rfl rfl (by omega) rfl trivial dX11_stuff_77 (fun H locs hT hS hq => ?_)
                refine lv_aload_n hx hb dX11_stuff_78 rfl (lv_at hl 0 rfl) ?_
                refine gf_11_7 hx hb hts hin11 hown hK hT k0 hfl17 dX11_stuff_79 (fun a20 ka20 fva20 => ?_)
                refine lv_aload_n hx hb dX11_stuff_82 rfl (lv_at hl 0 rfl) ?_
                refine gf_11_0 hx hb hts hin11 hown hK hT k0 hfl73 dX11_stuff_83 (fun x21 kx21 fvx21 => ?_)
                have gx21 := congrArg Int32.toInt kx21.1
                refine lv_iload_n hx hb dX11_stuff_86 rfl (lv_at hl 2 rfl) ?_
                refine tw_ias (K := 1003) (n := 3) (P := fun _ => True) hx hb hK hT hS ka20 (by decide) rfl rfl (by omega) rfl trivial dX11_stuff_87 (fun H locs hT hS hq => ?_)
                refine lv_aload_n hx hb dX11_stuff_88 rfl (lv_at hl 0 rfl) ?_
                refine gf_11_8 hx hb hts hin11 hown hK hT k0 hfl20 dX11_stuff_89 (fun a22 ka22 fva22 => ?_)
                refine lv_aload_n hx hb dX11_stuff_92 rfl (lv_at hl 0 rfl) ?_
                refine gf_11_0 hx hb hts hin11 hown hK hT k0 hfl73 dX11_stuff_93 (fun x23 kx23 fvx23 => ?_)
                have gx23 := congrArg Int32.toInt kx23.1
                refine lv_iload_n hx hb dX11_stuff_96 rfl (lv_at hl 3 rfl) ?_
                refine tw_ias (K := 1003) (n := 3) (P := fun _ => True) hx hb hK hT hS ka22 (by decide) rfl rfl (by omega) rfl trivial dX11_stuff_97 (fun H locs hT hS hq => ?_)
                refine lv_aload_n hx hb dX11_stuff_98 rfl (lv_at hl 0 rfl) ?_
                refine gf_11_9 hx hb hts hin11 hown hK hT k0 hfl23 dX11_stuff_99 (fun a24 ka24 fva24 => ?_)
                refine lv_aload_n hx hb dX11_stuff_102 rfl (lv_at hl 0 rfl) ?_
                refine gf_11_0 hx hb hts hin11 hown hK hT k0 hfl73 dX11_stuff_103 (fun x25 kx25 fvx25 => ?_)
                have gx25 := congrArg Int32.toInt kx25.1
                refine lv_iload hx hb dX11_stuff_106 (lv_at hl 4 rfl) ?_
                refine tw_ias (K := 1003) (n := 3) (P := fun _ => True) hx hb hK hT hS ka24 (by decide) rfl rfl (by omega) rfl trivial dX11_stuff_108 (fun H locs hT hS hq => ?_)
                refine lv_iconst (v := (0 : Int32)) hx hb dX11_stuff_109 (by decide) ?_
                refine lv_istore (lv' := [(5, .int (0 : Int32)), (0, .ref p0), (1, .int p1), (2, .int p2), (3, .int p3), (4, .int p4)]) hx hb dX11_stuff_110 hl (by decide) rfl (fun ls hl => ?_)
                have L112 : ∀ (nn : Nat) (H : Heap) (locs : List Loc) (ls : Array Slot) (u26 : Gh) (x27 : Int32), (nn = (2147483647 - x27.toInt).toNat) → (sG u26 G) → (TW D cy κ u26 H) → (va_S (AA κ) s.heap H locs) → (lv_has ls 6 [(5, .int x27), (0, .ref p0), (1, .int p1), (2, .int p2), (3, .int p3), (4, .int p4)]) → (0 ≤ x27.toInt ∧ x27.toInt ≤ 5) → (5 * (G.1 3).toInt + x27.toInt ≤ (u26.1 9).toInt) → W p l e rmX11_stuff s m args below meth c H locs 0 0 Q (F0 m 112 ls []) := by
                  intro nn
                  induction nn using Nat.strongRecOn with
                  | _ nn ih112 =>
                    intro H locs ls u26 x27 hnn qu26 hT hS hl fL112_0 fL112_1
                    have hk9 := TW.k9 hT k0
                    refine lv_iload hx hb dX11_stuff_112 (lv_at hl 0 rfl) ?_
                    refine lv_iconst (v := (5 : Int32)) hx hb dX11_stuff_114 (by decide) ?_
                    refine tb_icmp_ge (tgt := 140) hx hb dX11_stuff_115 (by decide) (fun c28 => ?_) (fun c28 => ?_)
                    · skip
                      refine lv_aload_n hx hb dX11_stuff_140 rfl (lv_at hl 1 rfl) ?_
                      refine lv_dup hx hb dX11_stuff_141 rfl ?_
                      refine gf_11_0 hx hb hts hin11 hown hK hT k0 hfl73 dX11_stuff_142 (fun x29 kx29 fvx29 => ?_)
                      have gx29 := congrArg Int32.toInt kx29.1
                      have zz30 : (u26.1 (3)).toInt = (G.1 (3)).toInt := congrArg Int32.toInt (qu26 (3) (by omega))
                      refine lv_iconst (v := (1 : Int32)) hx hb dX11_stuff_145 (by decide) ?_
                      refine lv_iadd hx hb dX11_stuff_146 ?_
                      refine lv_topi (fun x31 ex31 => ?_)
                      have tx31 : x31.toInt = x29.toInt + (1 : Int32).toInt := by rw [ex31]; exact ti_add (by have := i32b x29; have := i32b (1 : Int32); omega)
                      refine pc_11_0 hx hb hts hin11 hown hK hT hS k0 hfl73 dX11_stuff_147 (by omega) (fun H locs hT hS => ?_)
                      obtain ⟨u32, eu32⟩ : ∃ u : Gh, u = cG u26 (3) x31 := ⟨_, rfl⟩
                      rw [← eu32] at hT
                      have au32 : (u32.1 (3)).toInt = x31.toInt := by rw [eu32, cG_at]
                      have bu32 : ∀ j, j ≠ 3 → u32.1 j = u26.1 j := fun j hj => by rw [eu32]; exact if_neg hj
                      have du32 : u32.2 = u26.2 := by rw [eu32]; rfl
                      refine lv_aload_n hx hb dX11_stuff_150 rfl (lv_at hl 1 rfl) ?_
                      refine gf_11_0 hx hb hts hin11 hown hK hT k0 hfl73 dX11_stuff_151 (fun x33 kx33 fvx33 => ?_)
                      have gx33 := congrArg Int32.toInt kx33.1
                      refine lv_iconst (v := (1 : Int32)) hx hb dX11_stuff_154 (by decide) ?_
                      refine lv_isub hx hb dX11_stuff_155 ?_
                      refine lv_topi (fun x34 ex34 => ?_)
                      have tx34 : x34.toInt = x33.toInt - (1 : Int32).toInt := by rw [ex34]; exact ti_sub (by have := i32b x33; have := i32b (1 : Int32); omega)
                      exact hret H locs ls 156 x34 u32 dX11_stuff_156 (Or.inr (Or.inr ⟨by omega, by omega, by omega, by omega, fun i h1 h2 => (bu32 i (by omega)).trans (qu26 i (by omega))⟩)) hT hS
                    · skip
                      refine lv_aload_n hx hb dX11_stuff_118 rfl (lv_at hl 1 rfl) ?_
                      refine gf_11_10 hx hb hts hin11 hown hK hT k0 hfl26 dX11_stuff_119 (fun a35 ka35 fva35 => ?_)
                      refine lv_iconst (v := (5 : Int32)) hx hb dX11_stuff_122 (by decide) ?_
                      refine lv_aload_n hx hb dX11_stuff_123 rfl (lv_at hl 1 rfl) ?_
                      refine gf_11_0 hx hb hts hin11 hown hK hT k0 hfl73 dX11_stuff_124 (fun x36 kx36 fvx36 => ?_)
                      have gx36 := congrArg Int32.toInt kx36.1
                      have zz37 : (u26.1 (3)).toInt = (G.1 (3)).toInt := congrArg Int32.toInt (qu26 (3) (by omega))
                      refine lv_imul hx hb dX11_stuff_127 ?_
                      refine lv_topi (fun x38 ex38 => ?_)
                      have tx38 : x38.toInt = 5 * x36.toInt := by rw [ex38, ti_mul (by rw [hc5]; have := i32b (5 : Int32); have := i32b x36; omega), hc5]
                      refine lv_iload hx hb dX11_stuff_128 (lv_at hl 0 rfl) ?_
                      refine lv_iadd hx hb dX11_stuff_130 ?_
                      refine lv_topi (fun x39 ex39 => ?_)
                      have tx39 : x39.toInt = x38.toInt + x27.toInt := by rw [ex39]; exact ti_add (by have := i32b x38; have := i32b x27; omega)
                      refine lv_bipush (v := (100 : Int32)) hx hb dX11_stuff_131 (by decide) ?_
                      obtain ⟨x40, ex40⟩ : ∃ z : Int32, z = x39 + 1 := ⟨_, rfl⟩
                      have tx40 : x40.toInt = x39.toInt + 1 := by rw [ex40, ti_add (by have := i32b x39; rw [show (1 : Int32).toInt = 1 from rfl]; omega)]; rfl
                      refine ag_53 (z := x40) hx hb hK hT hS ka35 (by omega) dX11_stuff_133 (by omega) (fun H locs hT hS => ?_)
                      obtain ⟨u41, eu41⟩ : ∃ u : Gh, u = cG u26 (9) x40 := ⟨_, rfl⟩
                      rw [← eu41] at hT
                      have au41 : (u41.1 (9)).toInt = x40.toInt := by rw [eu41, cG_at]
                      have bu41 : ∀ j, j ≠ 9 → u41.1 j = u26.1 j := fun j hj => by rw [eu41]; exact if_neg hj
                      have du41 : u41.2 = u26.2 := by rw [eu41]; rfl
                      obtain ⟨x42, ex42⟩ : ∃ z : Int32, z = x27 + (1 : Int32) := ⟨_, rfl⟩
                      refine lv_iinc (v := x42) (lv' := [(5, .int x42), (0, .ref p0), (1, .int p1), (2, .int p2), (3, .int p3), (4, .int p4)]) hx hb dX11_stuff_134 hl (k := 0) rfl (by rw [ex42]; rfl) (by decide) rfl (fun ls hl => ?_)
                      have tx42 : x42.toInt = x27.toInt + 1 := by rw [ex42, ti_add (by have := i32b x27; have := i32b p1; have := i32b p2; have := i32b p3; have := i32b p4; omega), hc1]
                      refine lv_goto (tgt := 112) hx hb dX11_stuff_137 (by decide) ?_
                      exact ih112 ((2147483647 - x42.toInt).toNat) (by have := i32b x42; have := i32b p1; have := i32b p2; have := i32b p3; have := i32b p4; omega) H locs ls u41 x42 rfl (sG.up bu41 du41 (by omega) qu26) hT hS (lv_sub hl [0, 1, 2, 3, 4, 5] rfl) (by omega) (by omega)
                exact L112 _ H locs ls G (0 : Int32) rfl (sG.rf G) hT hS (lv_sub hl [0, 1, 2, 3, 4, 5] rfl) (by omega) (by omega)
              · skip
                refine lv_bipush (v := (-4 : Int32)) hx hb dX11_stuff_65 (by decide) ?_
                exact hret H locs ls 67 (-4 : Int32) G dX11_stuff_67 (by first | exact Or.inl ⟨rfl, by omega, by omega⟩ | exact Or.inr (Or.inl ⟨rfl, by omega, by omega, by omega⟩)) hT hS
            · skip
              refine lv_bipush (v := (-2 : Int32)) hx hb dX11_stuff_54 (by decide) ?_
              exact hret H locs ls 56 (-2 : Int32) G dX11_stuff_56 (by first | exact Or.inl ⟨rfl, by omega, by omega⟩ | exact Or.inr (Or.inl ⟨rfl, by omega, by omega, by omega⟩)) hT hS
  exact main s.heap [] hT va_S.rf
