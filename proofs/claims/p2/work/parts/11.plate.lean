abbrev rmX7_isFull : Room := { frames := 0, cells := 0, slots := 0, locals := 0 }
set_option maxHeartbeats 4000000 in
set_option maxRecDepth 100000 in
theorem c_X7_isFull (l : Launch) (D : va_G) (cy : Nat → ClassId) (κ : Nat → Nat) (G : Gh) (p0 : Nat) (k0 : κ p0 = 8) : Met l yX7_isFull wsX7_isFull rmX7_isFull (va_Pc [.ref p0] (fun U => WW D cy κ G U)) (va_Qi (fun (r : Int32) (u : Gh) => u = G ∧ (r.toInt = 1 ∧ 12 ≤ (G.1 (1000 + p0)).toInt ∨ r.toInt = 0 ∧ (G.1 (1000 + p0)).toInt < 12)) (fun u t => WW D cy κ u t) (AA κ)) 0 0 (AA κ) := by
  refine Met.twz (cc := cX7_isFull) (maxL := 1) (by decide) rfl (Nat.le_of_ble_eq_true rfl) ?_
  intro p e s m args below meth c Q hx hb hml hown hts hK hT hret ls hl
  have hl : lv_has ls 1 [(0, .ref p0)] := hl
  have hfl17 := hts (.fieldLink RX7 17 "PlyPlates$Plate" "size" "I") (by decide +kernel)
  have hin7 : ∀ w ∈ u_ws RX7 TX7 2, w ∈ wsX7_isFull := by decide +kernel
  have hc12 : (12 : Int32).toInt = 12 := rfl
  have hc0 : (0 : Int32).toInt = 0 := rfl
  have hc1 : (1 : Int32).toInt = 1 := rfl
  have main : ∀ (H : Heap) (locs : List Loc), TW D cy κ G H → va_S (AA κ) s.heap H locs → W p l e rmX7_isFull s m args below meth c H locs 0 0 Q (F0 m 0 ls []) := by
    intro H locs hT hS
    refine lv_aload_n hx hb dX7_isFull_0 rfl (lv_at hl 0 rfl) ?_
    refine gf_7_1 hx hb hts hin7 hown hK hT k0 hfl17 dX7_isFull_1 (fun x1 kx1 fvx1 => ?_)
    have gx1 := congrArg Int32.toInt kx1.1
    refine lv_bipush (v := (12 : Int32)) hx hb dX7_isFull_4 (by decide) ?_
    refine tb_icmp_lt (tgt := 13) hx hb dX7_isFull_6 (by decide) (fun c2 => ?_) (fun c2 => ?_)
    · skip
      refine lv_iconst (v := (0 : Int32)) hx hb dX7_isFull_13 (by decide) ?_
      exact hret H locs ls 14 (0 : Int32) G dX7_isFull_14 (by omega) ⟨rfl, by omega⟩ hT hS
    · skip
      refine lv_iconst (v := (1 : Int32)) hx hb dX7_isFull_9 (by decide) ?_
      refine lv_goto (tgt := 14) hx hb dX7_isFull_10 (by decide) ?_
      exact hret H locs ls 14 (1 : Int32) G dX7_isFull_14 (by omega) ⟨rfl, by omega⟩ hT hS
  exact main s.heap [] hT va_S.rf

abbrev rmX7_put : Room := { frames := 1, cells := 0, slots := 0, locals := 24 }
set_option maxHeartbeats 4000000 in
set_option maxRecDepth 100000 in
theorem c_X7_put (l : Launch) (D : va_G) (cy : Nat → ClassId) (κ : Nat → Nat) (G : Gh) (p0 : Nat) (k0 : κ p0 = 8) (p1 : Int32) (q1 : 0 ≤ p1.toInt ∧ p1.toInt ≤ 2) (p2 : Int32) (p3 : Int32) : Met l yX7_put wsX7_put rmX7_put (va_Pc [.ref p0, .int p1, .int p2, .int p3] (fun U => WW D cy κ G U)) (va_Qv (fun u : Gh => lowG u G ∧ (True)) (fun u t => WW D cy κ u t) (AA κ)) 0 0 (AA κ) := by
  refine Met.twv (cc := cX7_put) (maxL := 4) (by decide) rfl (Nat.le_of_ble_eq_true rfl) ?_
  intro p e s m args below meth c Q hx hb hml hown hts hK hT hret ls hl
  have hl : lv_has ls 4 [(0, .ref p0), (1, .int p1), (2, .int p2), (3, .int p3)] := hl
  have hfl11 := hts (.fieldLink RX7 11 "PlyPlates$Plate" "layers" "[LPlyPlates$Layer;") (by decide +kernel)
  have hin7 : ∀ w ∈ u_ws RX7 TX7 2, w ∈ wsX7_put := by decide +kernel
  have hfl17 := hts (.fieldLink RX7 17 "PlyPlates$Plate" "size" "I") (by decide +kernel)
  have hc0 : (0 : Int32).toInt = 0 := rfl
  have hc1 : (1 : Int32).toInt = 1 := rfl
  have main : ∀ (H : Heap) (locs : List Loc), TW D cy κ G H → va_S (AA κ) s.heap H locs → W p l e rmX7_put s m args below meth c H locs 0 0 Q (F0 m 0 ls []) := by
    intro H locs hT hS
    refine lv_aload_n hx hb dX7_put_0 rfl (lv_at hl 0 rfl) ?_
    refine tw_Vi (q := (RX7, TX7, 2)) (As := []) (rest := []) ⟨hx, hb, hml, hown, hts⟩ (c_X7_isFull l D cy κ G p0 k0) (cwV 0 hts gX7_put_X7_isFull rfl rfl rfl (by decide +kernel) ⟨Nat.le_of_ble_eq_true rfl, Nat.le_of_ble_eq_true rfl⟩) hK hT hS k0 (by decide) rfl rfl hl.1 rfl (Nat.le_of_ble_eq_true rfl) dX7_put_1 ⟨Nat.zero_le _, Nat.zero_le _⟩ (fun x1 u2 H locs hpu2 hT hS => ?_)
    obtain ⟨huu2, qu2⟩ := hpu2
    rw [huu2] at hT
    refine tb_if_ne (tgt := 33) hx hb dX7_put_4 (by decide) (fun c3 => ?_) (fun c3 => ?_)
    · skip
      exact hret H locs ls 33 G dX7_put_33 ⟨(lowG.rf G), trivial⟩ hT hS
    · skip
      refine lv_aload_n hx hb dX7_put_7 rfl (lv_at hl 0 rfl) ?_
      refine gf_7_0 hx hb hts hin7 hown hK hT k0 hfl11 dX7_put_8 (fun a4 ka4 fva4 => ?_)
      refine lv_aload_n hx hb dX7_put_11 rfl (lv_at hl 0 rfl) ?_
      refine gf_7_1 hx hb hts hin7 hown hK hT k0 hfl17 dX7_put_12 (fun x5 kx5 fvx5 => ?_)
      have gx5 := congrArg Int32.toInt kx5.1
      refine tw_ra (K := 29) (t := 2) (ty := .object RX5) (n := 12) (P := fun b => κ b = 6) hx hb hK hT ka4 (by decide) rfl rfl rfl rfl (by omega) rfl dX7_put_15 (fun a6 ka6 fva6 => ?_)
      refine lv_iload_n hx hb dX7_put_16 rfl (lv_at hl 1 rfl) ?_
      refine lv_iload_n hx hb dX7_put_17 rfl (lv_at hl 2 rfl) ?_
      refine lv_iload_n hx hb dX7_put_18 rfl (lv_at hl 3 rfl) ?_
      refine lv_iconst (v := (0 : Int32)) hx hb dX7_put_19 (by decide) ?_
      refine tw_Vv (q := (RX5, TX5, 4)) (As := [.int p1, .int p2, .int p3, .int (0 : Int32)]) (rest := []) ⟨hx, hb, hml, hown, hts⟩ (c_X5_become l D cy κ G a6 ka6 p1 (by omega) p2 p3 (0 : Int32)) (cwV 4 hts gX7_put_X5_become rfl rfl rfl (by decide +kernel) ⟨Nat.le_of_ble_eq_true rfl, Nat.le_of_ble_eq_true rfl⟩) hK hT hS ka6 (by decide) rfl rfl hl.1 rfl (Nat.le_of_ble_eq_true rfl) dX7_put_20 ⟨Nat.zero_le _, Nat.zero_le _⟩ (fun u8 H locs hpu8 hT hS => ?_)
      obtain ⟨huu8, qu8⟩ := hpu8
      rw [huu8] at hT
      refine lv_aload_n hx hb dX7_put_23 rfl (lv_at hl 0 rfl) ?_
      refine lv_dup hx hb dX7_put_24 rfl ?_
      refine gf_7_1 hx hb hts hin7 hown hK hT k0 hfl17 dX7_put_25 (fun x9 kx9 fvx9 => ?_)
      have gx9 := congrArg Int32.toInt kx9.1
      refine lv_iconst (v := (1 : Int32)) hx hb dX7_put_28 (by decide) ?_
      refine lv_iadd hx hb dX7_put_29 ?_
      refine lv_topi (fun x10 ex10 => ?_)
      have tx10 : x10.toInt = x9.toInt + (1 : Int32).toInt := by rw [ex10]; exact ti_add (by have := i32b x9; have := i32b (1 : Int32); omega)
      refine pg_7_1 hx hb hts hin7 hown hK hT hS k0 hfl17 dX7_put_30 (by omega) (fun H locs hT hS => ?_)
      exact hret H locs ls 33 (szG G p0 x10) dX7_put_33 ⟨((lowG.sz G p0 x10).tr (lowG.rf G)), trivial⟩ hT hS
  exact main s.heap [] hT va_S.rf

abbrev rmX7_copy : Room := { frames := 1, cells := 0, slots := 0, locals := 24 }
set_option maxHeartbeats 4000000 in
set_option maxRecDepth 100000 in
theorem c_X7_copy (l : Launch) (D : va_G) (cy : Nat → ClassId) (κ : Nat → Nat) (G : Gh) (p0 : Nat) (k0 : κ p0 = 8) (p1 : Nat) (k1 : κ p1 = 8) : Met l yX7_copy wsX7_copy rmX7_copy (va_Pc [.ref p0, .ref p1] (fun U => WW D cy κ G U)) (va_Qv (fun u : Gh => lowG u G ∧ (True)) (fun u t => WW D cy κ u t) (AA κ)) 0 0 (AA κ) := by
  refine Met.twv (cc := cX7_copy) (maxL := 4) (by decide) rfl (Nat.le_of_ble_eq_true rfl) ?_
  intro p e s m args below meth c Q hx hb hml hown hts hK hT hret ls hl
  have hl : lv_has ls 4 [(0, .ref p0), (1, .ref p1)] := hl
  have hfl17 := hts (.fieldLink RX7 17 "PlyPlates$Plate" "size" "I") (by decide +kernel)
  have hin7 : ∀ w ∈ u_ws RX7 TX7 2, w ∈ wsX7_copy := by decide +kernel
  have hc0 : (0 : Int32).toInt = 0 := rfl
  have hfl11 := hts (.fieldLink RX7 11 "PlyPlates$Plate" "layers" "[LPlyPlates$Layer;") (by decide +kernel)
  have hfl30 := hts (.fieldLink RX7 30 "PlyPlates$Layer" "stuffNumber" "I") (by decide +kernel)
  have hin5 : ∀ w ∈ u_ws RX5 TX5 4, w ∈ wsX7_copy := by decide +kernel
  have hfl33 := hts (.fieldLink RX7 33 "PlyPlates$Layer" "way" "I") (by decide +kernel)
  have hfl36 := hts (.fieldLink RX7 36 "PlyPlates$Layer" "thick" "I") (by decide +kernel)
  have hfl39 := hts (.fieldLink RX7 39 "PlyPlates$Layer" "broken" "I") (by decide +kernel)
  have hc1 : (1 : Int32).toInt = 1 := rfl
  have main : ∀ (H : Heap) (locs : List Loc), TW D cy κ G H → va_S (AA κ) s.heap H locs → W p l e rmX7_copy s m args below meth c H locs 0 0 Q (F0 m 0 ls []) := by
    intro H locs hT hS
    refine lv_aload_n hx hb dX7_copy_0 rfl (lv_at hl 0 rfl) ?_
    refine lv_aload_n hx hb dX7_copy_1 rfl (lv_at hl 1 rfl) ?_
    refine gf_7_1 hx hb hts hin7 hown hK hT k1 hfl17 dX7_copy_2 (fun x1 kx1 fvx1 => ?_)
    have gx1 := congrArg Int32.toInt kx1.1
    refine pg_7_1 hx hb hts hin7 hown hK hT hS k0 hfl17 dX7_copy_5 (by omega) (fun H locs hT hS => ?_)
    refine lv_iconst (v := (0 : Int32)) hx hb dX7_copy_8 (by decide) ?_
    refine lv_istore_n (lv' := [(2, .int (0 : Int32)), (0, .ref p0), (1, .ref p1)]) hx hb dX7_copy_9 rfl hl (by decide) rfl (fun ls hl => ?_)
    have L10 : ∀ (nn : Nat) (H : Heap) (locs : List Loc) (ls : Array Slot) (u2 : Gh) (x3 : Int32), (nn = (2147483647 - x3.toInt).toNat) → (lowG u2 G) → (TW D cy κ u2 H) → (va_S (AA κ) s.heap H locs) → (lv_has ls 4 [(2, .int x3), (0, .ref p0), (1, .ref p1)]) → (0 ≤ x3.toInt ∧ x3.toInt ≤ 12) → W p l e rmX7_copy s m args below meth c H locs 0 0 Q (F0 m 10 ls []) := by
      intro nn
      induction nn using Nat.strongRecOn with
      | _ nn ih10 =>
        intro H locs ls u2 x3 hnn lu2 hT hS hl fL10_0
        refine lv_iload_n hx hb dX7_copy_10 rfl (lv_at hl 0 rfl) ?_
        refine lv_aload_n hx hb dX7_copy_11 rfl (lv_at hl 1 rfl) ?_
        refine gf_7_1 hx hb hts hin7 hown hK hT k0 hfl17 dX7_copy_12 (fun x4 kx4 fvx4 => ?_)
        have gx4 := congrArg Int32.toInt kx4.1
        refine tb_icmp_ge (tgt := 56) hx hb dX7_copy_15 (by decide) (fun c5 => ?_) (fun c5 => ?_)
        · skip
          exact hret H locs ls 56 u2 dX7_copy_56 ⟨lu2, trivial⟩ hT hS
        · skip
          refine lv_aload_n hx hb dX7_copy_18 rfl (lv_at hl 2 rfl) ?_
          refine gf_7_0 hx hb hts hin7 hown hK hT k1 hfl11 dX7_copy_19 (fun a6 ka6 fva6 => ?_)
          refine lv_iload_n hx hb dX7_copy_22 rfl (lv_at hl 0 rfl) ?_
          refine tw_ra (K := 29) (t := 2) (ty := .object RX5) (n := 12) (P := fun b => κ b = 6) hx hb hK hT ka6 (by decide) rfl rfl rfl rfl (by omega) rfl dX7_copy_23 (fun a7 ka7 fva7 => ?_)
          refine lv_astore_n (lv' := [(3, .ref a7), (2, .int x3), (0, .ref p0), (1, .ref p1)]) hx hb dX7_copy_24 rfl hl (by decide) rfl (fun ls hl => ?_)
          refine lv_aload_n hx hb dX7_copy_25 rfl (lv_at hl 2 rfl) ?_
          refine gf_7_0 hx hb hts hin7 hown hK hT k0 hfl11 dX7_copy_26 (fun a8 ka8 fva8 => ?_)
          refine lv_iload_n hx hb dX7_copy_29 rfl (lv_at hl 1 rfl) ?_
          refine tw_ra (K := 29) (t := 2) (ty := .object RX5) (n := 12) (P := fun b => κ b = 6) hx hb hK hT ka8 (by decide) rfl rfl rfl rfl (by omega) rfl dX7_copy_30 (fun a9 ka9 fva9 => ?_)
          refine lv_aload_n hx hb dX7_copy_31 rfl (lv_at hl 0 rfl) ?_
          refine gf_5_0 hx hb hts hin5 hown hK hT ka7 hfl30 dX7_copy_32 (fun x10 kx10 fvx10 => ?_)
          refine lv_aload_n hx hb dX7_copy_35 rfl (lv_at hl 0 rfl) ?_
          refine gf_5_1 hx hb hts hin5 hown hK hT ka7 hfl33 dX7_copy_36 (fun x11 kx11 fvx11 => ?_)
          refine lv_aload_n hx hb dX7_copy_39 rfl (lv_at hl 0 rfl) ?_
          refine gf_5_2 hx hb hts hin5 hown hK hT ka7 hfl36 dX7_copy_40 (fun x12 kx12 fvx12 => ?_)
          refine lv_aload_n hx hb dX7_copy_43 rfl (lv_at hl 0 rfl) ?_
          refine gf_5_3 hx hb hts hin5 hown hK hT ka7 hfl39 dX7_copy_44 (fun x13 kx13 fvx13 => ?_)
          refine tw_Vv (q := (RX5, TX5, 4)) (As := [.int x10, .int x11, .int x12, .int x13]) (rest := []) ⟨hx, hb, hml, hown, hts⟩ (c_X5_become l D cy κ u2 a9 ka9 x10 (by omega) x11 x12 x13) (cwV 4 hts gX7_copy_X5_become rfl rfl rfl (by decide +kernel) ⟨Nat.le_of_ble_eq_true rfl, Nat.le_of_ble_eq_true rfl⟩) hK hT hS ka9 (by decide) rfl rfl hl.1 rfl (Nat.le_of_ble_eq_true rfl) dX7_copy_47 ⟨Nat.zero_le _, Nat.zero_le _⟩ (fun u15 H locs hpu15 hT hS => ?_)
          obtain ⟨huu15, qu15⟩ := hpu15
          rw [huu15] at hT
          obtain ⟨x16, ex16⟩ : ∃ z : Int32, z = x3 + (1 : Int32) := ⟨_, rfl⟩
          refine lv_iinc (v := x16) (lv' := [(2, .int x16), (3, .ref a7), (0, .ref p0), (1, .ref p1)]) hx hb dX7_copy_50 hl (k := 1) rfl (by rw [ex16]; rfl) (by decide) rfl (fun ls hl => ?_)
          have tx16 : x16.toInt = x3.toInt + 1 := by rw [ex16, ti_add (by have := i32b x3; omega), hc1]
          refine lv_goto (tgt := 10) hx hb dX7_copy_53 (by decide) ?_
          exact ih10 ((2147483647 - x16.toInt).toNat) (by have := i32b x16; omega) H locs ls u2 x16 rfl lu2 hT hS (lv_sub hl [0, 2, 3] rfl) (by omega)
    exact L10 _ H locs ls (szG G p0 x1) (0 : Int32) rfl ((lowG.sz G p0 x1).tr (lowG.rf G)) hT hS (lv_sub hl [0, 1, 2] rfl) (by omega)
  exact main s.heap [] hT va_S.rf

abbrev rmX7_thickness : Room := { frames := 0, cells := 0, slots := 0, locals := 0 }
set_option maxHeartbeats 4000000 in
set_option maxRecDepth 100000 in
theorem c_X7_thickness (l : Launch) (D : va_G) (cy : Nat → ClassId) (κ : Nat → Nat) (G : Gh) (p0 : Nat) (k0 : κ p0 = 8) : Met l yX7_thickness wsX7_thickness rmX7_thickness (va_Pc [.ref p0] (fun U => WW D cy κ G U)) (va_Qi (fun (r : Int32) (u : Gh) => u = G ∧ (True)) (fun u t => WW D cy κ u t) (AA κ)) 0 0 (AA κ) := by
  refine Met.twi (cc := cX7_thickness) (maxL := 3) (by decide) rfl (Nat.le_of_ble_eq_true rfl) ?_
  intro p e s m args below meth c Q hx hb hml hown hts hK hT hret ls hl
  have hl : lv_has ls 3 [(0, .ref p0)] := hl
  have hc0 : (0 : Int32).toInt = 0 := rfl
  have hfl17 := hts (.fieldLink RX7 17 "PlyPlates$Plate" "size" "I") (by decide +kernel)
  have hin7 : ∀ w ∈ u_ws RX7 TX7 2, w ∈ wsX7_thickness := by decide +kernel
  have hfl11 := hts (.fieldLink RX7 11 "PlyPlates$Plate" "layers" "[LPlyPlates$Layer;") (by decide +kernel)
  have hfl36 := hts (.fieldLink RX7 36 "PlyPlates$Layer" "thick" "I") (by decide +kernel)
  have hin5 : ∀ w ∈ u_ws RX5 TX5 4, w ∈ wsX7_thickness := by decide +kernel
  have hc1 : (1 : Int32).toInt = 1 := rfl
  have main : ∀ (H : Heap) (locs : List Loc), TW D cy κ G H → va_S (AA κ) s.heap H locs → W p l e rmX7_thickness s m args below meth c H locs 0 0 Q (F0 m 0 ls []) := by
    intro H locs hT hS
    refine lv_iconst (v := (0 : Int32)) hx hb dX7_thickness_0 (by decide) ?_
    refine lv_istore_n (lv' := [(1, .int (0 : Int32)), (0, .ref p0)]) hx hb dX7_thickness_1 rfl hl (by decide) rfl (fun ls hl => ?_)
    refine lv_iconst (v := (0 : Int32)) hx hb dX7_thickness_2 (by decide) ?_
    refine lv_istore_n (lv' := [(2, .int (0 : Int32)), (1, .int (0 : Int32)), (0, .ref p0)]) hx hb dX7_thickness_3 rfl hl (by decide) rfl (fun ls hl => ?_)
    have L4 : ∀ (nn : Nat) (H : Heap) (locs : List Loc) (ls : Array Slot) (x1 : Int32) (x2 : Int32), (nn = (2147483647 - x1.toInt).toNat) → (TW D cy κ G H) → (va_S (AA κ) s.heap H locs) → (lv_has ls 3 [(2, .int x1), (1, .int x2), (0, .ref p0)]) → (0 ≤ x1.toInt ∧ x1.toInt ≤ 12) → W p l e rmX7_thickness s m args below meth c H locs 0 0 Q (F0 m 4 ls []) := by
      intro nn
      induction nn using Nat.strongRecOn with
      | _ nn ih4 =>
        intro H locs ls x1 x2 hnn hT hS hl fL4_0
        refine lv_iload_n hx hb dX7_thickness_4 rfl (lv_at hl 0 rfl) ?_
        refine lv_aload_n hx hb dX7_thickness_5 rfl (lv_at hl 2 rfl) ?_
        refine gf_7_1 hx hb hts hin7 hown hK hT k0 hfl17 dX7_thickness_6 (fun x3 kx3 fvx3 => ?_)
        have gx3 := congrArg Int32.toInt kx3.1
        refine tb_icmp_ge (tgt := 30) hx hb dX7_thickness_9 (by decide) (fun c4 => ?_) (fun c4 => ?_)
        · skip
          refine lv_iload_n hx hb dX7_thickness_30 rfl (lv_at hl 1 rfl) ?_
          exact hret H locs ls 31 x2 G dX7_thickness_31 ⟨rfl, trivial⟩ hT hS
        · skip
          refine lv_iload_n hx hb dX7_thickness_12 rfl (lv_at hl 1 rfl) ?_
          refine lv_aload_n hx hb dX7_thickness_13 rfl (lv_at hl 2 rfl) ?_
          refine gf_7_0 hx hb hts hin7 hown hK hT k0 hfl11 dX7_thickness_14 (fun a5 ka5 fva5 => ?_)
          refine lv_iload_n hx hb dX7_thickness_17 rfl (lv_at hl 0 rfl) ?_
          refine tw_ra (K := 29) (t := 2) (ty := .object RX5) (n := 12) (P := fun b => κ b = 6) hx hb hK hT ka5 (by decide) rfl rfl rfl rfl (by omega) rfl dX7_thickness_18 (fun a6 ka6 fva6 => ?_)
          refine gf_5_2 hx hb hts hin5 hown hK hT ka6 hfl36 dX7_thickness_19 (fun x7 kx7 fvx7 => ?_)
          refine lv_iadd hx hb dX7_thickness_22 ?_
          refine lv_topi (fun x8 ex8 => ?_)
          have tx8 : x8.toInt = (x2 + x7).toInt := by rw [ex8]
          refine lv_istore_n (lv' := [(1, .int x8), (2, .int x1), (0, .ref p0)]) hx hb dX7_thickness_23 rfl hl (by decide) rfl (fun ls hl => ?_)
          obtain ⟨x9, ex9⟩ : ∃ z : Int32, z = x1 + (1 : Int32) := ⟨_, rfl⟩
          refine lv_iinc (v := x9) (lv' := [(2, .int x9), (1, .int x8), (0, .ref p0)]) hx hb dX7_thickness_24 hl (k := 1) rfl (by rw [ex9]; rfl) (by decide) rfl (fun ls hl => ?_)
          have tx9 : x9.toInt = x1.toInt + 1 := by rw [ex9, ti_add (by have := i32b x1; have := i32b x8; omega), hc1]
          refine lv_goto (tgt := 4) hx hb dX7_thickness_27 (by decide) ?_
          exact ih4 ((2147483647 - x9.toInt).toNat) (by have := i32b x9; have := i32b x8; omega) H locs ls x9 x8 rfl hT hS (lv_sub hl [0, 1, 2] rfl) (by omega)
    exact L4 _ H locs ls (0 : Int32) (0 : Int32) rfl hT hS (lv_sub hl [0, 1, 2] rfl) (by omega)
  exact main s.heap [] hT va_S.rf

abbrev rmX7_isEven : Room := { frames := 1, cells := 0, slots := 0, locals := 21 }
set_option maxHeartbeats 4000000 in
set_option maxRecDepth 100000 in
theorem c_X7_isEven (l : Launch) (D : va_G) (cy : Nat → ClassId) (κ : Nat → Nat) (G : Gh) (p0 : Nat) (k0 : κ p0 = 8) : Met l yX7_isEven wsX7_isEven rmX7_isEven (va_Pc [.ref p0] (fun U => WW D cy κ G U)) (va_Qi (fun (r : Int32) (u : Gh) => u = G ∧ (0 ≤ r.toInt ∧ r.toInt ≤ 1)) (fun u t => WW D cy κ u t) (AA κ)) 0 0 (AA κ) := by
  refine Met.twz (cc := cX7_isEven) (maxL := 2) (by decide) rfl (Nat.le_of_ble_eq_true rfl) ?_
  intro p e s m args below meth c Q hx hb hml hown hts hK hT hret ls hl
  have hl : lv_has ls 2 [(0, .ref p0)] := hl
  have hc0 : (0 : Int32).toInt = 0 := rfl
  have hfl17 := hts (.fieldLink RX7 17 "PlyPlates$Plate" "size" "I") (by decide +kernel)
  have hin7 : ∀ w ∈ u_ws RX7 TX7 2, w ∈ wsX7_isEven := by decide +kernel
  have hc2 : (2 : Int32).toInt = 2 := rfl
  have hc1 : (1 : Int32).toInt = 1 := rfl
  have hfl11 := hts (.fieldLink RX7 11 "PlyPlates$Plate" "layers" "[LPlyPlates$Layer;") (by decide +kernel)
  have main : ∀ (H : Heap) (locs : List Loc), TW D cy κ G H → va_S (AA κ) s.heap H locs → W p l e rmX7_isEven s m args below meth c H locs 0 0 Q (F0 m 0 ls []) := by
    intro H locs hT hS
    refine lv_iconst (v := (0 : Int32)) hx hb dX7_isEven_0 (by decide) ?_
    refine lv_istore_n (lv' := [(1, .int (0 : Int32)), (0, .ref p0)]) hx hb dX7_isEven_1 rfl hl (by decide) rfl (fun ls hl => ?_)
    have L2 : ∀ (nn : Nat) (H : Heap) (locs : List Loc) (ls : Array Slot) (x1 : Int32), (nn = (2147483647 - x1.toInt).toNat) → (TW D cy κ G H) → (va_S (AA κ) s.heap H locs) → (lv_has ls 2 [(1, .int x1), (0, .ref p0)]) → (0 ≤ x1.toInt ∧ x1.toInt ≤ 6) → W p l e rmX7_isEven s m args below meth c H locs 0 0 Q (F0 m 2 ls []) := by
      intro nn
      induction nn using Nat.strongRecOn with
      | _ nn ih2 =>
        intro H locs ls x1 hnn hT hS hl fL2_0
        refine lv_iload_n hx hb dX7_isEven_2 rfl (lv_at hl 0 rfl) ?_
        refine lv_aload_n hx hb dX7_isEven_3 rfl (lv_at hl 1 rfl) ?_
        refine gf_7_1 hx hb hts hin7 hown hK hT k0 hfl17 dX7_isEven_4 (fun x2 kx2 fvx2 => ?_)
        have gx2 := congrArg Int32.toInt kx2.1
        refine lv_iconst (v := (2 : Int32)) hx hb dX7_isEven_7 (by decide) ?_
        refine lv_idiv hx hb dX7_isEven_8 (by decide) ?_
        refine lv_topi (fun x3 ex3 => ?_)
        have tx3 : x3.toInt = x2.toInt / 2 := by rw [ex3]; exact ti_div hc2 (by omega) (by decide)
        refine tb_icmp_ge (tgt := 45) hx hb dX7_isEven_9 (by decide) (fun c4 => ?_) (fun c4 => ?_)
        · skip
          refine lv_iconst (v := (1 : Int32)) hx hb dX7_isEven_45 (by decide) ?_
          exact hret H locs ls 46 (1 : Int32) G dX7_isEven_46 (by omega) ⟨rfl, by omega⟩ hT hS
        · skip
          refine lv_aload_n hx hb dX7_isEven_12 rfl (lv_at hl 1 rfl) ?_
          refine gf_7_0 hx hb hts hin7 hown hK hT k0 hfl11 dX7_isEven_13 (fun a5 ka5 fva5 => ?_)
          refine lv_iload_n hx hb dX7_isEven_16 rfl (lv_at hl 0 rfl) ?_
          refine tw_ra (K := 29) (t := 2) (ty := .object RX5) (n := 12) (P := fun b => κ b = 6) hx hb hK hT ka5 (by decide) rfl rfl rfl rfl (by omega) rfl dX7_isEven_17 (fun a6 ka6 fva6 => ?_)
          refine lv_aload_n hx hb dX7_isEven_18 rfl (lv_at hl 1 rfl) ?_
          refine gf_7_0 hx hb hts hin7 hown hK hT k0 hfl11 dX7_isEven_19 (fun a7 ka7 fva7 => ?_)
          obtain rfl : a5 = a7 := eRef (FV.eq fva5 fva7)
          refine lv_aload_n hx hb dX7_isEven_22 rfl (lv_at hl 1 rfl) ?_
          refine gf_7_1 hx hb hts hin7 hown hK hT k0 hfl17 dX7_isEven_23 (fun x8 kx8 fvx8 => ?_)
          have gx8 := congrArg Int32.toInt kx8.1
          obtain rfl : x2 = x8 := eInt (FV.eq fvx2 fvx8)
          refine lv_iconst (v := (1 : Int32)) hx hb dX7_isEven_26 (by decide) ?_
          refine lv_isub hx hb dX7_isEven_27 ?_
          refine lv_topi (fun x9 ex9 => ?_)
          have tx9 : x9.toInt = x2.toInt - (1 : Int32).toInt := by rw [ex9]; exact ti_sub (by have := i32b x2; have := i32b (1 : Int32); omega)
          refine lv_iload_n hx hb dX7_isEven_28 rfl (lv_at hl 0 rfl) ?_
          refine lv_isub hx hb dX7_isEven_29 ?_
          refine lv_topi (fun x10 ex10 => ?_)
          have tx10 : x10.toInt = x9.toInt - x1.toInt := by rw [ex10]; exact ti_sub (by have := i32b x9; have := i32b x1; omega)
          refine tw_ra (K := 29) (t := 2) (ty := .object RX5) (n := 12) (P := fun b => κ b = 6) hx hb hK hT ka5 (by decide) rfl rfl rfl rfl (by omega) rfl dX7_isEven_30 (fun a11 ka11 fva11 => ?_)
          refine tw_Vi (q := (RX5, TX5, 4)) (As := [.ref a11]) (rest := []) ⟨hx, hb, hml, hown, hts⟩ (c_X5_isLike l D cy κ G a6 ka6 a11 ka11) (cwV 1 hts gX7_isEven_X5_isLike rfl rfl rfl (by decide +kernel) ⟨Nat.le_of_ble_eq_true rfl, Nat.le_of_ble_eq_true rfl⟩) hK hT hS ka6 (by decide) rfl rfl hl.1 rfl (Nat.le_of_ble_eq_true rfl) dX7_isEven_31 ⟨Nat.zero_le _, Nat.zero_le _⟩ (fun x12 u13 H locs hpu13 hT hS => ?_)
          obtain ⟨huu13, qu13⟩ := hpu13
          rw [huu13] at hT
          refine tb_if_ne (tgt := 39) hx hb dX7_isEven_34 (by decide) (fun c14 => ?_) (fun c14 => ?_)
          · skip
            obtain ⟨x15, ex15⟩ : ∃ z : Int32, z = x1 + (1 : Int32) := ⟨_, rfl⟩
            refine lv_iinc (v := x15) (lv' := [(1, .int x15), (0, .ref p0)]) hx hb dX7_isEven_39 hl (k := 0) rfl (by rw [ex15]; rfl) (by decide) rfl (fun ls hl => ?_)
            have tx15 : x15.toInt = x1.toInt + 1 := by rw [ex15, ti_add (by have := i32b x1; omega), hc1]
            refine lv_goto (tgt := 2) hx hb dX7_isEven_42 (by decide) ?_
            exact ih2 ((2147483647 - x15.toInt).toNat) (by have := i32b x15; omega) H locs ls x15 rfl hT hS (lv_sub hl [0, 1] rfl) (by omega)
          · skip
            refine lv_iconst (v := (0 : Int32)) hx hb dX7_isEven_37 (by decide) ?_
            exact hret H locs ls 38 (0 : Int32) G dX7_isEven_38 (by omega) ⟨rfl, by omega⟩ hT hS
    exact L2 _ H locs ls (0 : Int32) rfl hT hS (lv_sub hl [0, 1] rfl) (by omega)
  exact main s.heap [] hT va_S.rf

abbrev rmX7_giveWay : Room := { frames := 0, cells := 0, slots := 0, locals := 0 }
set_option maxHeartbeats 4000000 in
set_option maxRecDepth 100000 in
theorem c_X7_giveWay (l : Launch) (D : va_G) (cy : Nat → ClassId) (κ : Nat → Nat) (G : Gh) (p0 : Nat) (k0 : κ p0 = 8) (p1 : Int32) : Met l yX7_giveWay wsX7_giveWay rmX7_giveWay (va_Pc [.ref p0, .int p1] (fun U => WW D cy κ G U)) (va_Qv (fun u : Gh => u = G ∧ (True)) (fun u t => WW D cy κ u t) (AA κ)) 0 0 (AA κ) := by
  refine Met.twv (cc := cX7_giveWay) (maxL := 3) (by decide) rfl (Nat.le_of_ble_eq_true rfl) ?_
  intro p e s m args below meth c Q hx hb hml hown hts hK hT hret ls hl
  have hl : lv_has ls 3 [(0, .ref p0), (1, .int p1)] := hl
  have hc10 : (10 : Int32).toInt = 10 := rfl
  have hfl17 := hts (.fieldLink RX7 17 "PlyPlates$Plate" "size" "I") (by decide +kernel)
  have hin7 : ∀ w ∈ u_ws RX7 TX7 2, w ∈ wsX7_giveWay := by decide +kernel
  have hfl11 := hts (.fieldLink RX7 11 "PlyPlates$Plate" "layers" "[LPlyPlates$Layer;") (by decide +kernel)
  have hc1 : (1 : Int32).toInt = 1 := rfl
  have hfl39 := hts (.fieldLink RX7 39 "PlyPlates$Layer" "broken" "I") (by decide +kernel)
  have hin5 : ∀ w ∈ u_ws RX5 TX5 4, w ∈ wsX7_giveWay := by decide +kernel
  have hc2 : (2 : Int32).toInt = 2 := rfl
  have main : ∀ (H : Heap) (locs : List Loc), TW D cy κ G H → va_S (AA κ) s.heap H locs → W p l e rmX7_giveWay s m args below meth c H locs 0 0 Q (F0 m 0 ls []) := by
    intro H locs hT hS
    refine lv_iload_n hx hb dX7_giveWay_0 rfl (lv_at hl 1 rfl) ?_
    refine lv_bipush (v := (10 : Int32)) hx hb dX7_giveWay_1 (by decide) ?_
    refine lv_idiv hx hb dX7_giveWay_3 (by decide) ?_
    refine lv_topi (fun x1 ex1 => ?_)
    refine lv_istore_n (lv' := [(2, .int x1), (0, .ref p0), (1, .int p1)]) hx hb dX7_giveWay_4 rfl hl (by decide) rfl (fun ls hl => ?_)
    refine lv_iload_n hx hb dX7_giveWay_5 rfl (lv_at hl 0 rfl) ?_
    refine tb_if_lt (tgt := 39) hx hb dX7_giveWay_6 (by decide) (fun c2 => ?_) (fun c2 => ?_)
    · skip
      exact hret H locs ls 39 G dX7_giveWay_39 ⟨rfl, trivial⟩ hT hS
    · skip
      refine lv_iload_n hx hb dX7_giveWay_9 rfl (lv_at hl 0 rfl) ?_
      refine lv_aload_n hx hb dX7_giveWay_10 rfl (lv_at hl 1 rfl) ?_
      refine gf_7_1 hx hb hts hin7 hown hK hT k0 hfl17 dX7_giveWay_11 (fun x3 kx3 fvx3 => ?_)
      have gx3 := congrArg Int32.toInt kx3.1
      refine tb_icmp_ge (tgt := 39) hx hb dX7_giveWay_14 (by decide) (fun c4 => ?_) (fun c4 => ?_)
      · skip
        exact hret H locs ls 39 G dX7_giveWay_39 ⟨rfl, trivial⟩ hT hS
      · skip
        refine lv_aload_n hx hb dX7_giveWay_17 rfl (lv_at hl 1 rfl) ?_
        refine gf_7_0 hx hb hts hin7 hown hK hT k0 hfl11 dX7_giveWay_18 (fun a5 ka5 fva5 => ?_)
        refine lv_iload_n hx hb dX7_giveWay_21 rfl (lv_at hl 0 rfl) ?_
        refine tw_ra (K := 29) (t := 2) (ty := .object RX5) (n := 12) (P := fun b => κ b = 6) hx hb hK hT ka5 (by decide) rfl rfl rfl rfl (by omega) rfl dX7_giveWay_22 (fun a6 ka6 fva6 => ?_)
        refine lv_iload_n hx hb dX7_giveWay_23 rfl (lv_at hl 2 rfl) ?_
        refine lv_bipush (v := (10 : Int32)) hx hb dX7_giveWay_24 (by decide) ?_
        refine lv_irem hx hb dX7_giveWay_26 (by decide) ?_
        refine lv_topi (fun x7 ex7 => ?_)
        refine lv_iconst (v := (1 : Int32)) hx hb dX7_giveWay_27 (by decide) ?_
        have J36 : ∀ (H : Heap) (locs : List Loc) (ls : Array Slot) (x8 : Int32), (TW D cy κ G H) → (va_S (AA κ) s.heap H locs) → (lv_has ls 3 [(2, .int x1), (0, .ref p0), (1, .int p1)]) → (1 ≤ x8.toInt ∧ x8.toInt ≤ 2) → W p l e rmX7_giveWay s m args below meth c H locs 0 0 Q (F0 m 36 ls [.int x8, .ref a6]) := by
          intro H locs ls x8 hT hS hl fJ36_0
          refine pf_5_3 hx hb hts hin5 hown hK hT hS ka6 hfl39 dX7_giveWay_36 (fun H locs hT hS => ?_)
          exact hret H locs ls 39 G dX7_giveWay_39 ⟨rfl, trivial⟩ hT hS
        refine tb_icmp_gt (tgt := 35) hx hb dX7_giveWay_28 (by decide) (fun c9 => ?_) (fun c9 => ?_)
        · skip
          refine lv_iconst (v := (1 : Int32)) hx hb dX7_giveWay_35 (by decide) ?_
          exact J36 H locs ls (1 : Int32) hT hS (lv_sub hl [0, 1, 2] rfl) (by omega)
        · skip
          refine lv_iconst (v := (2 : Int32)) hx hb dX7_giveWay_31 (by decide) ?_
          refine lv_goto (tgt := 36) hx hb dX7_giveWay_32 (by decide) ?_
          exact J36 H locs ls (2 : Int32) hT hS (lv_sub hl [0, 1, 2] rfl) (by omega)
  exact main s.heap [] hT va_S.rf

abbrev rmX7_leftOver : Room := { frames := 1, cells := 0, slots := 0, locals := 21 }
set_option maxHeartbeats 4000000 in
set_option maxRecDepth 100000 in
theorem c_X7_leftOver (l : Launch) (D : va_G) (cy : Nat → ClassId) (κ : Nat → Nat) (G : Gh) (p0 : Nat) (k0 : κ p0 = 8) (p1 : Nat) (k1 : κ p1 = 8) : Met l yX7_leftOver wsX7_leftOver rmX7_leftOver (va_Pc [.ref p0, .ref p1] (fun U => WW D cy κ G U)) (va_Qi (fun (r : Int32) (u : Gh) => u = G ∧ (True)) (fun u t => WW D cy κ u t) (AA κ)) 0 0 (AA κ) := by
  refine Met.twi (cc := cX7_leftOver) (maxL := 5) (by decide) rfl (Nat.le_of_ble_eq_true rfl) ?_
  intro p e s m args below meth c Q hx hb hml hown hts hK hT hret ls hl
  have hl : lv_has ls 5 [(0, .ref p0), (1, .ref p1)] := hl
  have hc0 : (0 : Int32).toInt = 0 := rfl
  have hfl17 := hts (.fieldLink RX7 17 "PlyPlates$Plate" "size" "I") (by decide +kernel)
  have hin7 : ∀ w ∈ u_ws RX7 TX7 2, w ∈ wsX7_leftOver := by decide +kernel
  have hcm1 : (-1 : Int32).toInt = -1 := rfl
  have hc1 : (1 : Int32).toInt = 1 := rfl
  have hfl11 := hts (.fieldLink RX7 11 "PlyPlates$Plate" "layers" "[LPlyPlates$Layer;") (by decide +kernel)
  have main : ∀ (H : Heap) (locs : List Loc), TW D cy κ G H → va_S (AA κ) s.heap H locs → W p l e rmX7_leftOver s m args below meth c H locs 0 0 Q (F0 m 0 ls []) := by
    intro H locs hT hS
    refine lv_iconst (v := (0 : Int32)) hx hb dX7_leftOver_0 (by decide) ?_
    refine lv_istore_n (lv' := [(2, .int (0 : Int32)), (0, .ref p0), (1, .ref p1)]) hx hb dX7_leftOver_1 rfl hl (by decide) rfl (fun ls hl => ?_)
    refine lv_iconst (v := (0 : Int32)) hx hb dX7_leftOver_2 (by decide) ?_
    refine lv_istore_n (lv' := [(3, .int (0 : Int32)), (2, .int (0 : Int32)), (0, .ref p0), (1, .ref p1)]) hx hb dX7_leftOver_3 rfl hl (by decide) rfl (fun ls hl => ?_)
    refine lv_iconst (v := (0 : Int32)) hx hb dX7_leftOver_4 (by decide) ?_
    refine lv_istore (lv' := [(4, .int (0 : Int32)), (3, .int (0 : Int32)), (2, .int (0 : Int32)), (0, .ref p0), (1, .ref p1)]) hx hb dX7_leftOver_5 hl (by decide) rfl (fun ls hl => ?_)
    have L7 : ∀ (nn : Nat) (H : Heap) (locs : List Loc) (ls : Array Slot) (x1 : Int32) (x2 : Int32) (x3 : Int32), (nn = (2147483647 - x1.toInt).toNat) → (TW D cy κ G H) → (va_S (AA κ) s.heap H locs) → (lv_has ls 5 [(4, .int x1), (3, .int x2), (2, .int x3), (0, .ref p0), (1, .ref p1)]) → (0 ≤ x1.toInt ∧ x1.toInt ≤ 12) → (0 ≤ x2.toInt ∧ x2.toInt ≤ 12) → W p l e rmX7_leftOver s m args below meth c H locs 0 0 Q (F0 m 7 ls []) := by
      intro nn
      induction nn using Nat.strongRecOn with
      | _ nn ih7 =>
        intro H locs ls x1 x2 x3 hnn hT hS hl fL7_0 fL7_1
        refine lv_iload hx hb dX7_leftOver_7 (lv_at hl 0 rfl) ?_
        refine lv_aload_n hx hb dX7_leftOver_9 rfl (lv_at hl 3 rfl) ?_
        refine gf_7_1 hx hb hts hin7 hown hK hT k0 hfl17 dX7_leftOver_10 (fun x4 kx4 fvx4 => ?_)
        have gx4 := congrArg Int32.toInt kx4.1
        refine tb_icmp_ge (tgt := 62) hx hb dX7_leftOver_13 (by decide) (fun c5 => ?_) (fun c5 => ?_)
        · skip
          refine lv_iload_n hx hb dX7_leftOver_62 rfl (lv_at hl 1 rfl) ?_
          refine lv_aload_n hx hb dX7_leftOver_63 rfl (lv_at hl 4 rfl) ?_
          refine gf_7_1 hx hb hts hin7 hown hK hT k1 hfl17 dX7_leftOver_64 (fun x6 kx6 fvx6 => ?_)
          have gx6 := congrArg Int32.toInt kx6.1
          refine tb_icmp_ne (tgt := 74) hx hb dX7_leftOver_67 (by decide) (fun c7 => ?_) (fun c7 => ?_)
          · skip
            refine lv_iconst (v := (-1 : Int32)) hx hb dX7_leftOver_74 (by decide) ?_
            exact hret H locs ls 75 (-1 : Int32) G dX7_leftOver_75 ⟨rfl, trivial⟩ hT hS
          · skip
            refine lv_iload_n hx hb dX7_leftOver_70 rfl (lv_at hl 2 rfl) ?_
            refine lv_goto (tgt := 75) hx hb dX7_leftOver_71 (by decide) ?_
            exact hret H locs ls 75 x3 G dX7_leftOver_75 ⟨rfl, trivial⟩ hT hS
        · skip
          refine lv_iload_n hx hb dX7_leftOver_16 rfl (lv_at hl 1 rfl) ?_
          refine lv_aload_n hx hb dX7_leftOver_17 rfl (lv_at hl 4 rfl) ?_
          refine gf_7_1 hx hb hts hin7 hown hK hT k1 hfl17 dX7_leftOver_18 (fun x8 kx8 fvx8 => ?_)
          have gx8 := congrArg Int32.toInt kx8.1
          have J56 : ∀ (H : Heap) (locs : List Loc) (ls : Array Slot) (x9 : Int32) (x10 : Int32), (TW D cy κ G H) → (va_S (AA κ) s.heap H locs) → (lv_has ls 5 [(3, .int x9), (4, .int x1), (2, .int x10), (0, .ref p0), (1, .ref p1)]) → (0 ≤ x9.toInt ∧ x9.toInt ≤ 12) → W p l e rmX7_leftOver s m args below meth c H locs 0 0 Q (F0 m 56 ls []) := by
            intro H locs ls x9 x10 hT hS hl fJ56_0
            obtain ⟨x11, ex11⟩ : ∃ z : Int32, z = x1 + (1 : Int32) := ⟨_, rfl⟩
            refine lv_iinc (v := x11) (lv' := [(4, .int x11), (3, .int x9), (2, .int x10), (0, .ref p0), (1, .ref p1)]) hx hb dX7_leftOver_56 hl (k := 1) rfl (by rw [ex11]; rfl) (by decide) rfl (fun ls hl => ?_)
            have tx11 : x11.toInt = x1.toInt + 1 := by rw [ex11, ti_add (by have := i32b x1; have := i32b x9; have := i32b x10; omega), hc1]
            refine lv_goto (tgt := 7) hx hb dX7_leftOver_59 (by decide) ?_
            exact ih7 ((2147483647 - x11.toInt).toNat) (by have := i32b x11; have := i32b x9; have := i32b x10; omega) H locs ls x11 x9 x10 rfl hT hS (lv_sub hl [0, 1, 2, 3, 4] rfl) (by omega) (by omega)
          have J49 : ∀ (H : Heap) (locs : List Loc) (ls : Array Slot) , (TW D cy κ G H) → (va_S (AA κ) s.heap H locs) → (lv_has ls 5 [(4, .int x1), (3, .int x2), (2, .int x3), (0, .ref p0), (1, .ref p1)]) → W p l e rmX7_leftOver s m args below meth c H locs 0 0 Q (F0 m 49 ls []) := by
            intro H locs ls  hT hS hl 
            refine lv_iload_n hx hb dX7_leftOver_49 rfl (lv_at hl 2 rfl) ?_
            refine lv_iconst (v := (1 : Int32)) hx hb dX7_leftOver_50 (by decide) ?_
            refine lv_iload hx hb dX7_leftOver_51 (lv_at hl 0 rfl) ?_
            refine lv_ishl hx hb dX7_leftOver_53 ?_
            refine lv_topi (fun x12 _ => ?_)
            refine lv_ior hx hb dX7_leftOver_54 ?_
            refine lv_topi (fun x13 ex13 => ?_)
            refine lv_istore_n (lv' := [(2, .int x13), (4, .int x1), (3, .int x2), (0, .ref p0), (1, .ref p1)]) hx hb dX7_leftOver_55 rfl hl (by decide) rfl (fun ls hl => ?_)
            exact J56 H locs ls x2 x13 hT hS (lv_sub hl [2, 1, 0, 3, 4] rfl) (by omega)
          refine tb_icmp_ge (tgt := 49) hx hb dX7_leftOver_21 (by decide) (fun c14 => ?_) (fun c14 => ?_)
          · skip
            exact J49 H locs ls  hT hS (lv_sub hl [0, 1, 2, 3, 4] rfl) 
          · skip
            refine lv_aload_n hx hb dX7_leftOver_24 rfl (lv_at hl 3 rfl) ?_
            refine gf_7_0 hx hb hts hin7 hown hK hT k0 hfl11 dX7_leftOver_25 (fun a15 ka15 fva15 => ?_)
            refine lv_iload hx hb dX7_leftOver_28 (lv_at hl 0 rfl) ?_
            refine tw_ra (K := 29) (t := 2) (ty := .object RX5) (n := 12) (P := fun b => κ b = 6) hx hb hK hT ka15 (by decide) rfl rfl rfl rfl (by omega) rfl dX7_leftOver_30 (fun a16 ka16 fva16 => ?_)
            refine lv_aload_n hx hb dX7_leftOver_31 rfl (lv_at hl 4 rfl) ?_
            refine gf_7_0 hx hb hts hin7 hown hK hT k1 hfl11 dX7_leftOver_32 (fun a17 ka17 fva17 => ?_)
            refine lv_iload_n hx hb dX7_leftOver_35 rfl (lv_at hl 1 rfl) ?_
            refine tw_ra (K := 29) (t := 2) (ty := .object RX5) (n := 12) (P := fun b => κ b = 6) hx hb hK hT ka17 (by decide) rfl rfl rfl rfl (by omega) rfl dX7_leftOver_36 (fun a18 ka18 fva18 => ?_)
            refine tw_Vi (q := (RX5, TX5, 4)) (As := [.ref a18]) (rest := []) ⟨hx, hb, hml, hown, hts⟩ (c_X5_isLike l D cy κ G a16 ka16 a18 ka18) (cwV 1 hts gX7_leftOver_X5_isLike rfl rfl rfl (by decide +kernel) ⟨Nat.le_of_ble_eq_true rfl, Nat.le_of_ble_eq_true rfl⟩) hK hT hS ka16 (by decide) rfl rfl hl.1 rfl (Nat.le_of_ble_eq_true rfl) dX7_leftOver_37 ⟨Nat.zero_le _, Nat.zero_le _⟩ (fun x19 u20 H locs hpu20 hT hS => ?_)
            obtain ⟨huu20, qu20⟩ := hpu20
            rw [huu20] at hT
            refine tb_if_eq (tgt := 49) hx hb dX7_leftOver_40 (by decide) (fun c21 => ?_) (fun c21 => ?_)
            · skip
              exact J49 H locs ls  hT hS (lv_sub hl [0, 1, 2, 3, 4] rfl) 
            · skip
              obtain ⟨x22, ex22⟩ : ∃ z : Int32, z = x2 + (1 : Int32) := ⟨_, rfl⟩
              refine lv_iinc (v := x22) (lv' := [(3, .int x22), (4, .int x1), (2, .int x3), (0, .ref p0), (1, .ref p1)]) hx hb dX7_leftOver_43 hl (k := 1) rfl (by rw [ex22]; rfl) (by decide) rfl (fun ls hl => ?_)
              have tx22 : x22.toInt = x2.toInt + 1 := by rw [ex22, ti_add (by have := i32b x2; have := i32b x1; have := i32b x3; omega), hc1]
              refine lv_goto (tgt := 56) hx hb dX7_leftOver_46 (by decide) ?_
              exact J56 H locs ls x22 x3 hT hS (lv_sub hl [0, 1, 2, 3, 4] rfl) (by omega)
    exact L7 _ H locs ls (0 : Int32) (0 : Int32) (0 : Int32) rfl hT hS (lv_sub hl [0, 1, 2, 3, 4] rfl) (by omega) (by omega)
  exact main s.heap [] hT va_S.rf
