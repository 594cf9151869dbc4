abbrev rmX11_isIn : Room := { frames := 0, cells := 0, slots := 0, locals := 0 }
set_option maxHeartbeats 4000000 in
set_option maxRecDepth 100000 in
theorem c_X11_isIn (l : Launch) (D : va_G) (cy : Nat → ClassId) (κ : Nat → Nat) (G : Gh) (p0 : Int32) (p1 : Int32) (p2 : Int32) : Met l yX11_isIn wsX11_isIn rmX11_isIn (va_Pc [.int p0, .int p1, .int p2] (fun U => WW D cy κ G U)) (va_Qi (fun (r : Int32) (u : Gh) => u = G ∧ ((r.toInt = 1 ∧ p1.toInt ≤ p0.toInt ∧ p0.toInt ≤ p2.toInt) ∨ (r.toInt = 0 ∧ (p0.toInt < p1.toInt ∨ p2.toInt < p0.toInt)))) (fun u t => WW D cy κ u t) (AA κ)) 0 0 (AA κ) := by
  refine Met.twz (cc := cX11_isIn) (maxL := 3) (by decide) rfl (Nat.le_of_ble_eq_true rfl) ?_
  intro p e s m args below meth c Q hx hb hml hown hts hK hT hret ls hl
  have hl : lv_has ls 3 [(0, .int p0), (1, .int p1), (2, .int p2)] := hl
  have hc0 : (0 : Int32).toInt = 0 := rfl
  have hc1 : (1 : Int32).toInt = 1 := rfl
  have main : ∀ (H : Heap) (locs : List Loc), TW D cy κ G H → va_S (AA κ) s.heap H locs → W p l e rmX11_isIn s m args below meth c H locs 0 0 Q (F0 m 0 ls []) := by
    intro H locs hT hS
    refine lv_iload_n hx hb dX11_isIn_0 rfl (lv_at hl 0 rfl) ?_
    refine lv_iload_n hx hb dX11_isIn_1 rfl (lv_at hl 1 rfl) ?_
    refine tb_icmp_lt (tgt := 14) hx hb dX11_isIn_2 (by decide) (fun c1 => ?_) (fun c1 => ?_)
    · skip
      refine lv_iconst (v := (0 : Int32)) hx hb dX11_isIn_14 (by decide) ?_
      exact hret H locs ls 15 (0 : Int32) G dX11_isIn_15 (by omega) ⟨rfl, by omega⟩ hT hS
    · skip
      refine lv_iload_n hx hb dX11_isIn_5 rfl (lv_at hl 0 rfl) ?_
      refine lv_iload_n hx hb dX11_isIn_6 rfl (lv_at hl 2 rfl) ?_
      refine tb_icmp_gt (tgt := 14) hx hb dX11_isIn_7 (by decide) (fun c2 => ?_) (fun c2 => ?_)
      · skip
        refine lv_iconst (v := (0 : Int32)) hx hb dX11_isIn_14 (by decide) ?_
        exact hret H locs ls 15 (0 : Int32) G dX11_isIn_15 (by omega) ⟨rfl, by omega⟩ hT hS
      · skip
        refine lv_iconst (v := (1 : Int32)) hx hb dX11_isIn_10 (by decide) ?_
        refine lv_goto (tgt := 15) hx hb dX11_isIn_11 (by decide) ?_
        exact hret H locs ls 15 (1 : Int32) G dX11_isIn_15 (by omega) ⟨rfl, by omega⟩ hT hS
  exact main s.heap [] hT va_S.rf

abbrev rmX11_isStuff : Room := { frames := 1, cells := 0, slots := 0, locals := 22 }
set_option maxHeartbeats 4000000 in
set_option maxRecDepth 100000 in
theorem c_X11_isStuff (l : Launch) (D : va_G) (cy : Nat → ClassId) (κ : Nat → Nat) (G : Gh) (p0 : Nat) (k0 : κ p0 = 12) (p1 : Int32) : Met l yX11_isStuff wsX11_isStuff rmX11_isStuff (va_Pc [.ref p0, .int p1] (fun U => WW D cy κ G U)) (va_Qi (fun (r : Int32) (u : Gh) => u = G ∧ (r.toInt = 1 ∧ 0 ≤ p1.toInt ∧ p1.toInt < (G.1 3).toInt ∧ p1.toInt ≤ 2 ∨ r.toInt = 0 ∧ (p1.toInt < 0 ∨ (G.1 3).toInt ≤ p1.toInt))) (fun u t => WW D cy κ u t) (AA κ)) 0 0 (AA κ) := by
  refine Met.twz (cc := cX11_isStuff) (maxL := 2) (by decide) rfl (Nat.le_of_ble_eq_true rfl) ?_
  intro p e s m args below meth c Q hx hb hml hown hts hK hT hret ls hl
  have hl : lv_has ls 2 [(0, .ref p0), (1, .int p1)] := hl
  have hc0 : (0 : Int32).toInt = 0 := rfl
  have hfl73 := hts (.fieldLink RX11 73 "PlyPlatesModel" "stuffs" "I") (by decide +kernel)
  have hin11 : ∀ w ∈ u_ws RX11 TX11 31, w ∈ wsX11_isStuff := by decide +kernel
  have hc1 : (1 : Int32).toInt = 1 := rfl
  have main : ∀ (H : Heap) (locs : List Loc), TW D cy κ G H → va_S (AA κ) s.heap H locs → W p l e rmX11_isStuff s m args below meth c H locs 0 0 Q (F0 m 0 ls []) := by
    intro H locs hT hS
    refine lv_iload_n hx hb dX11_isStuff_0 rfl (lv_at hl 1 rfl) ?_
    refine lv_iconst (v := (0 : Int32)) hx hb dX11_isStuff_1 (by decide) ?_
    refine lv_aload_n hx hb dX11_isStuff_2 rfl (lv_at hl 0 rfl) ?_
    refine gf_11_0 hx hb hts hin11 hown hK hT k0 hfl73 dX11_isStuff_3 (fun x1 kx1 fvx1 => ?_)
    have gx1 := congrArg Int32.toInt kx1.1
    refine lv_iconst (v := (1 : Int32)) hx hb dX11_isStuff_6 (by decide) ?_
    refine lv_isub hx hb dX11_isStuff_7 ?_
    refine lv_topi (fun x2 ex2 => ?_)
    have tx2 : x2.toInt = x1.toInt - (1 : Int32).toInt := by rw [ex2]; exact ti_sub (by have := i32b x1; have := i32b (1 : Int32); omega)
    refine tw_Si (As := [.int p1, .int (0 : Int32), .int x2]) (rest := []) ⟨hx, hb, hml, hown, hts⟩ (c_X11_isIn l D cy κ G p1 (0 : Int32) x2) (va_cwS 3 hts gX11_isStuff_X11_isIn rfl rfl rfl (by decide +kernel) ⟨Nat.le_of_ble_eq_true rfl, Nat.le_of_ble_eq_true rfl⟩) hK hT hS rfl hl.1 rfl (Nat.le_of_ble_eq_true rfl) dX11_isStuff_8 ⟨Nat.zero_le _, Nat.zero_le _⟩ (fun x3 u4 H locs hpu4 hT hS => ?_)
    obtain ⟨huu4, qu4⟩ := hpu4
    rw [huu4] at hT
    exact hret H locs ls 11 x3 G dX11_isStuff_11 (by omega) ⟨rfl, by omega⟩ hT hS
  exact main s.heap [] hT va_S.rf

abbrev rmX11_isPlate : Room := { frames := 1, cells := 0, slots := 0, locals := 22 }
set_option maxHeartbeats 4000000 in
set_option maxRecDepth 100000 in
theorem c_X11_isPlate (l : Launch) (D : va_G) (cy : Nat → ClassId) (κ : Nat → Nat) (G : Gh) (p0 : Nat) (k0 : κ p0 = 12) (p1 : Int32) : Met l yX11_isPlate wsX11_isPlate rmX11_isPlate (va_Pc [.ref p0, .int p1] (fun U => WW D cy κ G U)) (va_Qi (fun (r : Int32) (u : Gh) => u = G ∧ (r.toInt = 1 ∧ 0 ≤ p1.toInt ∧ p1.toInt ≤ 3 ∨ r.toInt = 0)) (fun u t => WW D cy κ u t) (AA κ)) 0 0 (AA κ) := by
  refine Met.twz (cc := cX11_isPlate) (maxL := 2) (by decide) rfl (Nat.le_of_ble_eq_true rfl) ?_
  intro p e s m args below meth c Q hx hb hml hown hts hK hT hret ls hl
  have hl : lv_has ls 2 [(0, .ref p0), (1, .int p1)] := hl
  have hc0 : (0 : Int32).toInt = 0 := rfl
  have hfl76 := hts (.fieldLink RX11 76 "PlyPlatesModel" "plates" "I") (by decide +kernel)
  have hin11 : ∀ w ∈ u_ws RX11 TX11 31, w ∈ wsX11_isPlate := by decide +kernel
  have hc1 : (1 : Int32).toInt = 1 := rfl
  have main : ∀ (H : Heap) (locs : List Loc), TW D cy κ G H → va_S (AA κ) s.heap H locs → W p l e rmX11_isPlate s m args below meth c H locs 0 0 Q (F0 m 0 ls []) := by
    intro H locs hT hS
    refine lv_iload_n hx hb dX11_isPlate_0 rfl (lv_at hl 1 rfl) ?_
    refine lv_iconst (v := (0 : Int32)) hx hb dX11_isPlate_1 (by decide) ?_
    refine lv_aload_n hx hb dX11_isPlate_2 rfl (lv_at hl 0 rfl) ?_
    refine gf_11_1 hx hb hts hin11 hown hK hT k0 hfl76 dX11_isPlate_3 (fun x1 kx1 fvx1 => ?_)
    have gx1 := congrArg Int32.toInt kx1.1
    refine lv_iconst (v := (1 : Int32)) hx hb dX11_isPlate_6 (by decide) ?_
    refine lv_isub hx hb dX11_isPlate_7 ?_
    refine lv_topi (fun x2 ex2 => ?_)
    have tx2 : x2.toInt = x1.toInt - (1 : Int32).toInt := by rw [ex2]; exact ti_sub (by have := i32b x1; have := i32b (1 : Int32); omega)
    refine tw_Si (As := [.int p1, .int (0 : Int32), .int x2]) (rest := []) ⟨hx, hb, hml, hown, hts⟩ (c_X11_isIn l D cy κ G p1 (0 : Int32) x2) (va_cwS 3 hts gX11_isPlate_X11_isIn rfl rfl rfl (by decide +kernel) ⟨Nat.le_of_ble_eq_true rfl, Nat.le_of_ble_eq_true rfl⟩) hK hT hS rfl hl.1 rfl (Nat.le_of_ble_eq_true rfl) dX11_isPlate_8 ⟨Nat.zero_le _, Nat.zero_le _⟩ (fun x3 u4 H locs hpu4 hT hS => ?_)
    obtain ⟨huu4, qu4⟩ := hpu4
    rw [huu4] at hT
    exact hret H locs ls 11 x3 G dX11_isPlate_11 (by omega) ⟨rfl, by omega⟩ hT hS
  exact main s.heap [] hT va_S.rf

abbrev rmX11_isLayer : Room := { frames := 2, cells := 0, slots := 0, locals := 43 }
set_option maxHeartbeats 4000000 in
set_option maxRecDepth 100000 in
theorem c_X11_isLayer (l : Launch) (D : va_G) (cy : Nat → ClassId) (κ : Nat → Nat) (G : Gh) (p0 : Nat) (k0 : κ p0 = 12) (p1 : Int32) (p2 : Int32) : Met l yX11_isLayer wsX11_isLayer rmX11_isLayer (va_Pc [.ref p0, .int p1, .int p2] (fun U => WW D cy κ G U)) (va_Qi (fun (r : Int32) (u : Gh) => u = G ∧ (r.toInt = 1 ∧ 0 ≤ p1.toInt ∧ p1.toInt ≤ 3 ∧ 0 ≤ p2.toInt ∧ p2.toInt ≤ 11 ∨ r.toInt = 0)) (fun u t => WW D cy κ u t) (AA κ)) 0 0 (AA κ) := by
  refine Met.twz (cc := cX11_isLayer) (maxL := 3) (by decide) rfl (Nat.le_of_ble_eq_true rfl) ?_
  intro p e s m args below meth c Q hx hb hml hown hts hK hT hret ls hl
  have hl : lv_has ls 3 [(0, .ref p0), (1, .int p1), (2, .int p2)] := hl
  have hc0 : (0 : Int32).toInt = 0 := rfl
  have hfl35 := hts (.fieldLink RX11 35 "PlyPlatesModel" "many" "[I") (by decide +kernel)
  have hin11 : ∀ w ∈ u_ws RX11 TX11 31, w ∈ wsX11_isLayer := by decide +kernel
  have hc1 : (1 : Int32).toInt = 1 := rfl
  have main : ∀ (H : Heap) (locs : List Loc), TW D cy κ G H → va_S (AA κ) s.heap H locs → W p l e rmX11_isLayer s m args below meth c H locs 0 0 Q (F0 m 0 ls []) := by
    intro H locs hT hS
    refine lv_aload_n hx hb dX11_isLayer_0 rfl (lv_at hl 0 rfl) ?_
    refine lv_iload_n hx hb dX11_isLayer_1 rfl (lv_at hl 1 rfl) ?_
    refine tw_Vi (q := (RX11, TX11, 31)) (As := [.int p1]) (rest := []) ⟨hx, hb, hml, hown, hts⟩ (c_X11_isPlate l D cy κ G p0 k0 p1) (cwV 1 hts gX11_isLayer_X11_isPlate rfl rfl rfl (by decide +kernel) ⟨Nat.le_of_ble_eq_true rfl, Nat.le_of_ble_eq_true rfl⟩) hK hT hS k0 (by decide) rfl rfl hl.1 rfl (Nat.le_of_ble_eq_true rfl) dX11_isLayer_2 ⟨Nat.zero_le _, Nat.zero_le _⟩ (fun x1 u2 H locs hpu2 hT hS => ?_)
    obtain ⟨huu2, qu2⟩ := hpu2
    rw [huu2] at hT
    refine tb_if_eq (tgt := 28) hx hb dX11_isLayer_5 (by decide) (fun c3 => ?_) (fun c3 => ?_)
    · skip
      refine lv_iconst (v := (0 : Int32)) hx hb dX11_isLayer_28 (by decide) ?_
      exact hret H locs ls 29 (0 : Int32) G dX11_isLayer_29 (by omega) ⟨rfl, by omega⟩ hT hS
    · skip
      refine lv_iload_n hx hb dX11_isLayer_8 rfl (lv_at hl 2 rfl) ?_
      refine lv_iconst (v := (0 : Int32)) hx hb dX11_isLayer_9 (by decide) ?_
      refine lv_aload_n hx hb dX11_isLayer_10 rfl (lv_at hl 0 rfl) ?_
      refine gf_11_13 hx hb hts hin11 hown hK hT k0 hfl35 dX11_isLayer_11 (fun a4 ka4 fva4 => ?_)
      refine lv_iload_n hx hb dX11_isLayer_14 rfl (lv_at hl 1 rfl) ?_
      refine tw_ia (K := 50) (n := 5) (P := fun x => x = G.1 (100 + p1.toInt.toNat) ∧ (0 ≤ x.toInt ∧ x.toInt ≤ 12) ∧ ((G.1 3).toInt = 0 → x.toInt = 0)) hx hb hK hT ka4 (by decide) rfl rfl (by omega) rfl dX11_isLayer_15 (fun x5 kx5 fvx5 => ?_)
      have kx5 : x5 = G.1 (100 + p1.toInt.toNat) ∧ (0 ≤ x5.toInt ∧ x5.toInt ≤ 12) ∧ ((G.1 3).toInt = 0 → x5.toInt = 0) := kx5
      have gx5 := congrArg Int32.toInt kx5.1
      have rx5 := kx5.2
      refine lv_iconst (v := (1 : Int32)) hx hb dX11_isLayer_16 (by decide) ?_
      refine lv_isub hx hb dX11_isLayer_17 ?_
      refine lv_topi (fun x6 ex6 => ?_)
      have tx6 : x6.toInt = x5.toInt - (1 : Int32).toInt := by rw [ex6]; exact ti_sub (by have := i32b x5; have := i32b (1 : Int32); omega)
      refine tw_Si (As := [.int p2, .int (0 : Int32), .int x6]) (rest := []) ⟨hx, hb, hml, hown, hts⟩ (c_X11_isIn l D cy κ G p2 (0 : Int32) x6) (va_cwS 3 hts gX11_isLayer_X11_isIn rfl rfl rfl (by decide +kernel) ⟨Nat.le_of_ble_eq_true rfl, Nat.le_of_ble_eq_true rfl⟩) hK hT hS rfl hl.1 rfl (Nat.le_of_ble_eq_true rfl) dX11_isLayer_18 ⟨Nat.zero_le _, Nat.zero_le _⟩ (fun x7 u8 H locs hpu8 hT hS => ?_)
      obtain ⟨huu8, qu8⟩ := hpu8
      rw [huu8] at hT
      refine tb_if_eq (tgt := 28) hx hb dX11_isLayer_21 (by decide) (fun c9 => ?_) (fun c9 => ?_)
      · skip
        refine lv_iconst (v := (0 : Int32)) hx hb dX11_isLayer_28 (by decide) ?_
        exact hret H locs ls 29 (0 : Int32) G dX11_isLayer_29 (by omega) ⟨rfl, by omega⟩ hT hS
      · skip
        refine lv_iconst (v := (1 : Int32)) hx hb dX11_isLayer_24 (by decide) ?_
        refine lv_goto (tgt := 29) hx hb dX11_isLayer_25 (by decide) ?_
        exact hret H locs ls 29 (1 : Int32) G dX11_isLayer_29 (by omega) ⟨rfl, by omega⟩ hT hS
  exact main s.heap [] hT va_S.rf

abbrev rmX11_spot : Room := { frames := 0, cells := 0, slots := 0, locals := 0 }
set_option maxHeartbeats 4000000 in
set_option maxRecDepth 100000 in
theorem c_X11_spot (l : Launch) (D : va_G) (cy : Nat → ClassId) (κ : Nat → Nat) (G : Gh) (p0 : Int32) (q0 : 0 ≤ p0.toInt ∧ p0.toInt ≤ 4) (p1 : Int32) (q1 : 0 ≤ p1.toInt ∧ p1.toInt ≤ 12) : Met l yX11_spot wsX11_spot rmX11_spot (va_Pc [.int p0, .int p1] (fun U => WW D cy κ G U)) (va_Qi (fun (r : Int32) (u : Gh) => u = G ∧ (r.toInt = 12 * p0.toInt + p1.toInt)) (fun u t => WW D cy κ u t) (AA κ)) 0 0 (AA κ) := by
  refine Met.twi (cc := cX11_spot) (maxL := 2) (by decide) rfl (Nat.le_of_ble_eq_true rfl) ?_
  intro p e s m args below meth c Q hx hb hml hown hts hK hT hret ls hl
  have hl : lv_has ls 2 [(0, .int p0), (1, .int p1)] := hl
  have hc12 : (12 : Int32).toInt = 12 := rfl
  have main : ∀ (H : Heap) (locs : List Loc), TW D cy κ G H → va_S (AA κ) s.heap H locs → W p l e rmX11_spot s m args below meth c H locs 0 0 Q (F0 m 0 ls []) := by
    intro H locs hT hS
    refine lv_bipush (v := (12 : Int32)) hx hb dX11_spot_0 (by decide) ?_
    refine lv_iload_n hx hb dX11_spot_2 rfl (lv_at hl 0 rfl) ?_
    refine lv_imul hx hb dX11_spot_3 ?_
    refine lv_topi (fun x1 ex1 => ?_)
    have tx1 : x1.toInt = 12 * p0.toInt := by rw [ex1, ti_mul (by rw [hc12]; have := i32b (12 : Int32); have := i32b p0; omega), hc12]
    refine lv_iload_n hx hb dX11_spot_4 rfl (lv_at hl 1 rfl) ?_
    refine lv_iadd hx hb dX11_spot_5 ?_
    refine lv_topi (fun x2 ex2 => ?_)
    have tx2 : x2.toInt = x1.toInt + p1.toInt := by rw [ex2]; exact ti_add (by have := i32b x1; have := i32b p1; omega)
    exact hret H locs ls 6 x2 G dX11_spot_6 ⟨rfl, by omega⟩ hT hS
  exact main s.heap [] hT va_S.rf

abbrev rmX11_left : Room := { frames := 0, cells := 0, slots := 0, locals := 0 }
set_option maxHeartbeats 4000000 in
set_option maxRecDepth 100000 in
theorem c_X11_left (l : Launch) (D : va_G) (cy : Nat → ClassId) (κ : Nat → Nat) (G : Gh) (p0 : Nat) (k0 : κ p0 = 12) (p1 : Int32) (q1 : 0 ≤ p1.toInt ∧ p1.toInt ≤ 59) (p2 : Int32) : Met l yX11_left wsX11_left rmX11_left (va_Pc [.ref p0, .int p1, .int p2] (fun U => WW D cy κ G U)) (va_Qi (fun (r : Int32) (u : Gh) => u = G ∧ (((G.1 (200 + p1.toInt.toNat)).toInt ≠ 2 ∧ ((G.1 (200 + p1.toInt.toNat)).toInt ≠ 1 ∨ p2.toInt ≤ 0) ∨ r.toInt = 0))) (fun u t => WW D cy κ u t) (AA κ)) 0 0 (AA κ) := by
  refine Met.twi (cc := cX11_left) (maxL := 4) (by decide) rfl (Nat.le_of_ble_eq_true rfl) ?_
  intro p e s m args below meth c Q hx hb hml hown hts hK hT hret ls hl
  have hl : lv_has ls 4 [(0, .ref p0), (1, .int p1), (2, .int p2)] := hl
  have hfl47 := hts (.fieldLink RX11 47 "PlyPlatesModel" "broken" "[I") (by decide +kernel)
  have hin11 : ∀ w ∈ u_ws RX11 TX11 31, w ∈ wsX11_left := by decide +kernel
  have hc2 : (2 : Int32).toInt = 2 := rfl
  have hc0 : (0 : Int32).toInt = 0 := rfl
  have hc1 : (1 : Int32).toInt = 1 := rfl
  have hfl38 := hts (.fieldLink RX11 38 "PlyPlatesModel" "stuff" "[I") (by decide +kernel)
  have hfl23 := hts (.fieldLink RX11 23 "PlyPlatesModel" "q66" "[I") (by decide +kernel)
  have hfl20 := hts (.fieldLink RX11 20 "PlyPlatesModel" "q12" "[I") (by decide +kernel)
  have hfl17 := hts (.fieldLink RX11 17 "PlyPlatesModel" "q22" "[I") (by decide +kernel)
  have hfl13 := hts (.fieldLink RX11 13 "PlyPlatesModel" "q11" "[I") (by decide +kernel)
  have main : ∀ (H : Heap) (locs : List Loc), TW D cy κ G H → va_S (AA κ) s.heap H locs → W p l e rmX11_left s m args below meth c H locs 0 0 Q (F0 m 0 ls []) := by
    intro H locs hT hS
    refine lv_aload_n hx hb dX11_left_0 rfl (lv_at hl 0 rfl) ?_
    refine gf_11_17 hx hb hts hin11 hown hK hT k0 hfl47 dX11_left_1 (fun a1 ka1 fva1 => ?_)
    refine lv_iload_n hx hb dX11_left_4 rfl (lv_at hl 1 rfl) ?_
    refine tw_ia (K := 52) (n := 60) (P := fun x => x = G.1 (200 + p1.toInt.toNat) ∧ (0 ≤ x.toInt ∧ x.toInt ≤ 2)) hx hb hK hT ka1 (by decide) rfl rfl (by omega) rfl dX11_left_5 (fun x2 kx2 fvx2 => ?_)
    have kx2 : x2 = G.1 (200 + p1.toInt.toNat) ∧ (0 ≤ x2.toInt ∧ x2.toInt ≤ 2) := kx2
    have gx2 := congrArg Int32.toInt kx2.1
    have rx2 := kx2.2
    refine lv_iconst (v := (2 : Int32)) hx hb dX11_left_6 (by decide) ?_
    refine tb_icmp_eq (tgt := 24) hx hb dX11_left_7 (by decide) (fun c3 => ?_) (fun c3 => ?_)
    · skip
      refine lv_iconst (v := (0 : Int32)) hx hb dX11_left_24 (by decide) ?_
      exact hret H locs ls 25 (0 : Int32) G dX11_left_25 ⟨rfl, by omega⟩ hT hS
    · skip
      refine lv_aload_n hx hb dX11_left_10 rfl (lv_at hl 0 rfl) ?_
      refine gf_11_17 hx hb hts hin11 hown hK hT k0 hfl47 dX11_left_11 (fun a4 ka4 fva4 => ?_)
      obtain rfl : a1 = a4 := eRef (FV.eq fva1 fva4)
      refine lv_iload_n hx hb dX11_left_14 rfl (lv_at hl 1 rfl) ?_
      refine tw_ia (K := 52) (n := 60) (P := fun x => x = G.1 (200 + p1.toInt.toNat) ∧ (0 ≤ x.toInt ∧ x.toInt ≤ 2)) hx hb hK hT ka1 (by decide) rfl rfl (by omega) rfl dX11_left_15 (fun x5 kx5 fvx5 => ?_)
      have kx5 : x5 = G.1 (200 + p1.toInt.toNat) ∧ (0 ≤ x5.toInt ∧ x5.toInt ≤ 2) := kx5
      have gx5 := congrArg Int32.toInt kx5.1
      have rx5 := kx5.2
      obtain rfl : x2 = x5 := eInt (AV.eq fvx2 fvx5)
      refine lv_iconst (v := (1 : Int32)) hx hb dX11_left_16 (by decide) ?_
      have J26 : ∀ (H : Heap) (locs : List Loc) (ls : Array Slot) , (TW D cy κ G H) → (va_S (AA κ) s.heap H locs) → (lv_has ls 4 [(0, .ref p0), (1, .int p1), (2, .int p2)]) → ((G.1 (200 + p1.toInt.toNat)).toInt ≠ 2 ∧ ((G.1 (200 + p1.toInt.toNat)).toInt ≠ 1 ∨ p2.toInt ≤ 0)) → W p l e rmX11_left s m args below meth c H locs 0 0 Q (F0 m 26 ls []) := by
        intro H locs ls  hT hS hl fJ26_0
        refine lv_aload_n hx hb dX11_left_26 rfl (lv_at hl 0 rfl) ?_
        refine gf_11_14 hx hb hts hin11 hown hK hT k0 hfl38 dX11_left_27 (fun a6 ka6 fva6 => ?_)
        refine lv_iload_n hx hb dX11_left_30 rfl (lv_at hl 1 rfl) ?_
        refine tw_ia (K := 51) (n := 60) (P := fun x => (0 ≤ x.toInt ∧ x.toInt ≤ 2) ∧ (x.toInt = 0 ∨ x.toInt < (G.1 3).toInt)) hx hb hK hT ka6 (by decide) rfl rfl (by omega) rfl dX11_left_31 (fun x7 kx7 fvx7 => ?_)
        have kx7 : (0 ≤ x7.toInt ∧ x7.toInt ≤ 2) ∧ (x7.toInt = 0 ∨ x7.toInt < (G.1 3).toInt) := kx7
        refine lv_istore_n (lv' := [(3, .int x7), (0, .ref p0), (1, .int p1), (2, .int p2)]) hx hb dX11_left_32 rfl hl (by decide) rfl (fun ls hl => ?_)
        refine lv_iload_n hx hb dX11_left_33 rfl (lv_at hl 3 rfl) ?_
        refine tb_if_ne (tgt := 46) hx hb dX11_left_34 (by decide) (fun c8 => ?_) (fun c8 => ?_)
        · skip
          refine lv_iload_n hx hb dX11_left_46 rfl (lv_at hl 3 rfl) ?_
          refine lv_iconst (v := (1 : Int32)) hx hb dX11_left_47 (by decide) ?_
          refine tb_icmp_ne (tgt := 60) hx hb dX11_left_48 (by decide) (fun c9 => ?_) (fun c9 => ?_)
          · skip
            refine lv_iload_n hx hb dX11_left_60 rfl (lv_at hl 3 rfl) ?_
            refine lv_iconst (v := (2 : Int32)) hx hb dX11_left_61 (by decide) ?_
            refine tb_icmp_ne (tgt := 74) hx hb dX11_left_62 (by decide) (fun c10 => ?_) (fun c10 => ?_)
            · skip
              refine lv_aload_n hx hb dX11_left_74 rfl (lv_at hl 1 rfl) ?_
              refine gf_11_9 hx hb hts hin11 hown hK hT k0 hfl23 dX11_left_75 (fun a11 ka11 fva11 => ?_)
              refine lv_iload_n hx hb dX11_left_78 rfl (lv_at hl 0 rfl) ?_
              refine tw_ia (K := 1003) (n := 3) (P := fun _ => True) hx hb hK hT ka11 (by decide) rfl rfl (by omega) rfl dX11_left_79 (fun x12 _ fvx12 => ?_)
              exact hret H locs ls 80 x12 G dX11_left_80 ⟨rfl, by omega⟩ hT hS
            · skip
              refine lv_aload_n hx hb dX11_left_65 rfl (lv_at hl 1 rfl) ?_
              refine gf_11_8 hx hb hts hin11 hown hK hT k0 hfl20 dX11_left_66 (fun a13 ka13 fva13 => ?_)
              refine lv_iload_n hx hb dX11_left_69 rfl (lv_at hl 0 rfl) ?_
              refine tw_ia (K := 1003) (n := 3) (P := fun _ => True) hx hb hK hT ka13 (by decide) rfl rfl (by omega) rfl dX11_left_70 (fun x14 _ fvx14 => ?_)
              refine lv_goto (tgt := 80) hx hb dX11_left_71 (by decide) ?_
              exact hret H locs ls 80 x14 G dX11_left_80 ⟨rfl, by omega⟩ hT hS
          · skip
            refine lv_aload_n hx hb dX11_left_51 rfl (lv_at hl 1 rfl) ?_
            refine gf_11_7 hx hb hts hin11 hown hK hT k0 hfl17 dX11_left_52 (fun a15 ka15 fva15 => ?_)
            refine lv_iload_n hx hb dX11_left_55 rfl (lv_at hl 0 rfl) ?_
            refine tw_ia (K := 1003) (n := 3) (P := fun _ => True) hx hb hK hT ka15 (by decide) rfl rfl (by omega) rfl dX11_left_56 (fun x16 _ fvx16 => ?_)
            refine lv_goto (tgt := 80) hx hb dX11_left_57 (by decide) ?_
            exact hret H locs ls 80 x16 G dX11_left_80 ⟨rfl, by omega⟩ hT hS
        · skip
          refine lv_aload_n hx hb dX11_left_37 rfl (lv_at hl 1 rfl) ?_
          refine gf_11_6 hx hb hts hin11 hown hK hT k0 hfl13 dX11_left_38 (fun a17 ka17 fva17 => ?_)
          refine lv_iload_n hx hb dX11_left_41 rfl (lv_at hl 0 rfl) ?_
          refine tw_ia (K := 1003) (n := 3) (P := fun _ => True) hx hb hK hT ka17 (by decide) rfl rfl (by omega) rfl dX11_left_42 (fun x18 _ fvx18 => ?_)
          refine lv_goto (tgt := 80) hx hb dX11_left_43 (by decide) ?_
          exact hret H locs ls 80 x18 G dX11_left_80 ⟨rfl, by omega⟩ hT hS
      refine tb_icmp_ne (tgt := 26) hx hb dX11_left_17 (by decide) (fun c19 => ?_) (fun c19 => ?_)
      · skip
        exact J26 H locs ls  hT hS (lv_sub hl [0, 1, 2] rfl) (by omega)
      · skip
        refine lv_iload_n hx hb dX11_left_20 rfl (lv_at hl 2 rfl) ?_
        refine tb_if_le (tgt := 26) hx hb dX11_left_21 (by decide) (fun c20 => ?_) (fun c20 => ?_)
        · skip
          exact J26 H locs ls  hT hS (lv_sub hl [0, 1, 2] rfl) (by omega)
        · skip
          refine lv_iconst (v := (0 : Int32)) hx hb dX11_left_24 (by decide) ?_
          exact hret H locs ls 25 (0 : Int32) G dX11_left_25 ⟨rfl, by omega⟩ hT hS
  exact main s.heap [] hT va_S.rf

abbrev rmX11_turned : Room := { frames := 1, cells := 0, slots := 0, locals := 23 }
set_option maxHeartbeats 4000000 in
set_option maxRecDepth 100000 in
theorem c_X11_turned (l : Launch) (D : va_G) (cy : Nat → ClassId) (κ : Nat → Nat) (G : Gh) (p0 : Nat) (k0 : κ p0 = 12) (p1 : Int32) (q1 : 0 ≤ p1.toInt ∧ p1.toInt ≤ 59) (p2 : Int32) : Met l yX11_turned wsX11_turned rmX11_turned (va_Pc [.ref p0, .int p1, .int p2] (fun U => WW D cy κ G U)) (va_Qi (fun (r : Int32) (u : Gh) => u = G ∧ (True)) (fun u t => WW D cy κ u t) (AA κ)) 0 0 (AA κ) := by
  refine Met.twi (cc := cX11_turned) (maxL := 7) (by decide) rfl (Nat.le_of_ble_eq_true rfl) ?_
  intro p e s m args below meth c Q hx hb hml hown hts hK hT hret ls hl
  have hl : lv_has ls 7 [(0, .ref p0), (1, .int p1), (2, .int p2)] := hl
  have hc0 : (0 : Int32).toInt = 0 := rfl
  have hc1 : (1 : Int32).toInt = 1 := rfl
  have hc2 : (2 : Int32).toInt = 2 := rfl
  have hc3 : (3 : Int32).toInt = 3 := rfl
  have hfl41 := hts (.fieldLink RX11 41 "PlyPlatesModel" "way" "[I") (by decide +kernel)
  have hin11 : ∀ w ∈ u_ws RX11 TX11 31, w ∈ wsX11_turned := by decide +kernel
  have hc4 : (4 : Int32).toInt = 4 := rfl
  have hcm4 : (-4 : Int32).toInt = -4 := rfl
  have main : ∀ (H : Heap) (locs : List Loc), TW D cy κ G H → va_S (AA κ) s.heap H locs → W p l e rmX11_turned s m args below meth c H locs 0 0 Q (F0 m 0 ls []) := by
    intro H locs hT hS
    refine lv_aload_n hx hb dX11_turned_0 rfl (lv_at hl 0 rfl) ?_
    refine lv_iload_n hx hb dX11_turned_1 rfl (lv_at hl 1 rfl) ?_
    refine lv_iconst (v := (0 : Int32)) hx hb dX11_turned_2 (by decide) ?_
    refine tw_Vi (q := (RX11, TX11, 31)) (As := [.int p1, .int (0 : Int32)]) (rest := []) ⟨hx, hb, hml, hown, hts⟩ (c_X11_left l D cy κ G p0 k0 p1 (by omega) (0 : Int32)) (cwV 2 hts gX11_turned_X11_left rfl rfl rfl (by decide +kernel) ⟨Nat.le_of_ble_eq_true rfl, Nat.le_of_ble_eq_true rfl⟩) hK hT hS k0 (by decide) rfl rfl hl.1 rfl (Nat.le_of_ble_eq_true rfl) dX11_turned_3 ⟨Nat.zero_le _, Nat.zero_le _⟩ (fun x1 u2 H locs hpu2 hT hS => ?_)
    obtain ⟨huu2, qu2⟩ := hpu2
    rw [huu2] at hT
    clear qu2
    refine lv_istore_n (lv' := [(3, .int x1), (0, .ref p0), (1, .int p1), (2, .int p2)]) hx hb dX11_turned_6 rfl hl (by decide) rfl (fun ls hl => ?_)
    refine lv_aload_n hx hb dX11_turned_7 rfl (lv_at hl 1 rfl) ?_
    refine lv_iload_n hx hb dX11_turned_8 rfl (lv_at hl 2 rfl) ?_
    refine lv_iconst (v := (1 : Int32)) hx hb dX11_turned_9 (by decide) ?_
    refine tw_Vi (q := (RX11, TX11, 31)) (As := [.int p1, .int (1 : Int32)]) (rest := []) ⟨hx, hb, hml, hown, hts⟩ (c_X11_left l D cy κ G p0 k0 p1 (by omega) (1 : Int32)) (cwV 2 hts gX11_turned_X11_left rfl rfl rfl (by decide +kernel) ⟨Nat.le_of_ble_eq_true rfl, Nat.le_of_ble_eq_true rfl⟩) hK hT hS k0 (by decide) rfl rfl hl.1 rfl (Nat.le_of_ble_eq_true rfl) dX11_turned_10 ⟨Nat.zero_le _, Nat.zero_le _⟩ (fun x3 u4 H locs hpu4 hT hS => ?_)
    obtain ⟨huu4, qu4⟩ := hpu4
    rw [huu4] at hT
    clear qu4
    refine lv_istore (lv' := [(4, .int x3), (3, .int x1), (0, .ref p0), (1, .int p1), (2, .int p2)]) hx hb dX11_turned_13 hl (by decide) rfl (fun ls hl => ?_)
    refine lv_aload_n hx hb dX11_turned_15 rfl (lv_at hl 2 rfl) ?_
    refine lv_iload_n hx hb dX11_turned_16 rfl (lv_at hl 3 rfl) ?_
    refine lv_iconst (v := (2 : Int32)) hx hb dX11_turned_17 (by decide) ?_
    refine tw_Vi (q := (RX11, TX11, 31)) (As := [.int p1, .int (2 : Int32)]) (rest := []) ⟨hx, hb, hml, hown, hts⟩ (c_X11_left l D cy κ G p0 k0 p1 (by omega) (2 : Int32)) (cwV 2 hts gX11_turned_X11_left rfl rfl rfl (by decide +kernel) ⟨Nat.le_of_ble_eq_true rfl, Nat.le_of_ble_eq_true rfl⟩) hK hT hS k0 (by decide) rfl rfl hl.1 rfl (Nat.le_of_ble_eq_true rfl) dX11_turned_18 ⟨Nat.zero_le _, Nat.zero_le _⟩ (fun x5 u6 H locs hpu6 hT hS => ?_)
    obtain ⟨huu6, qu6⟩ := hpu6
    rw [huu6] at hT
    clear qu6
    refine lv_istore (lv' := [(5, .int x5), (4, .int x3), (3, .int x1), (0, .ref p0), (1, .int p1), (2, .int p2)]) hx hb dX11_turned_21 hl (by decide) rfl (fun ls hl => ?_)
    refine lv_aload_n hx hb dX11_turned_23 rfl (lv_at hl 3 rfl) ?_
    refine lv_iload_n hx hb dX11_turned_24 rfl (lv_at hl 4 rfl) ?_
    refine lv_iconst (v := (3 : Int32)) hx hb dX11_turned_25 (by decide) ?_
    refine tw_Vi (q := (RX11, TX11, 31)) (As := [.int p1, .int (3 : Int32)]) (rest := []) ⟨hx, hb, hml, hown, hts⟩ (c_X11_left l D cy κ G p0 k0 p1 (by omega) (3 : Int32)) (cwV 2 hts gX11_turned_X11_left rfl rfl rfl (by decide +kernel) ⟨Nat.le_of_ble_eq_true rfl, Nat.le_of_ble_eq_true rfl⟩) hK hT hS k0 (by decide) rfl rfl hl.1 rfl (Nat.le_of_ble_eq_true rfl) dX11_turned_26 ⟨Nat.zero_le _, Nat.zero_le _⟩ (fun x7 u8 H locs hpu8 hT hS => ?_)
    obtain ⟨huu8, qu8⟩ := hpu8
    rw [huu8] at hT
    clear qu8
    refine lv_istore (lv' := [(6, .int x7), (5, .int x5), (4, .int x3), (3, .int x1), (0, .ref p0), (1, .int p1), (2, .int p2)]) hx hb dX11_turned_29 hl (by decide) rfl (fun ls hl => ?_)
    refine lv_aload_n hx hb dX11_turned_31 rfl (lv_at hl 4 rfl) ?_
    refine gf_11_15 hx hb hts hin11 hown hK hT k0 hfl41 dX11_turned_32 (fun a9 ka9 fva9 => ?_)
    refine lv_iload_n hx hb dX11_turned_35 rfl (lv_at hl 5 rfl) ?_
    refine tw_ia (K := 1060) (n := 60) (P := fun _ => True) hx hb hK hT ka9 (by decide) rfl rfl (by omega) rfl dX11_turned_36 (fun x10 _ fvx10 => ?_)
    refine lv_iconst (v := (2 : Int32)) hx hb dX11_turned_37 (by decide) ?_
    refine tb_icmp_ge (tgt := 116) hx hb dX11_turned_38 (by decide) (fun c11 => ?_) (fun c11 => ?_)
    · skip
      refine lv_iload_n hx hb dX11_turned_116 rfl (lv_at hl 6 rfl) ?_
      refine lv_iconst (v := (3 : Int32)) hx hb dX11_turned_117 (by decide) ?_
      refine tb_icmp_ge (tgt := 149) hx hb dX11_turned_118 (by decide) (fun c12 => ?_) (fun c12 => ?_)
      · skip
        refine lv_iload_n hx hb dX11_turned_149 rfl (lv_at hl 6 rfl) ?_
        refine lv_iconst (v := (3 : Int32)) hx hb dX11_turned_150 (by decide) ?_
        refine tb_icmp_ne (tgt := 166) hx hb dX11_turned_151 (by decide) (fun c13 => ?_) (fun c13 => ?_)
        · skip
          refine lv_aload_n hx hb dX11_turned_166 rfl (lv_at hl 4 rfl) ?_
          refine gf_11_15 hx hb hts hin11 hown hK hT k0 hfl41 dX11_turned_167 (fun a14 ka14 fva14 => ?_)
          obtain rfl : a9 = a14 := eRef (FV.eq fva9 fva14)
          refine lv_iload_n hx hb dX11_turned_170 rfl (lv_at hl 5 rfl) ?_
          refine tw_ia (K := 1060) (n := 60) (P := fun _ => True) hx hb hK hT ka9 (by decide) rfl rfl (by omega) rfl dX11_turned_171 (fun x15 _ fvx15 => ?_)
          obtain rfl : x10 = x15 := eInt (AV.eq fvx10 fvx15)
          refine lv_iconst (v := (2 : Int32)) hx hb dX11_turned_172 (by decide) ?_
          refine tb_icmp_ne (tgt := 183) hx hb dX11_turned_173 (by decide) (fun c16 => ?_) (fun c16 => ?_)
          · skip
            refine lv_iload hx hb dX11_turned_183 (lv_at hl 2 rfl) ?_
            refine lv_iload_n hx hb dX11_turned_185 rfl (lv_at hl 3 rfl) ?_
            refine lv_isub hx hb dX11_turned_186 ?_
            refine lv_topi (fun x17 ex17 => ?_)
            have tx17 : x17.toInt = (x3 - x1).toInt := by rw [ex17]
            exact hret H locs ls 187 x17 G dX11_turned_187 ⟨rfl, trivial⟩ hT hS
          · skip
            refine lv_iload_n hx hb dX11_turned_176 rfl (lv_at hl 3 rfl) ?_
            refine lv_iload hx hb dX11_turned_177 (lv_at hl 2 rfl) ?_
            refine lv_isub hx hb dX11_turned_179 ?_
            refine lv_topi (fun x18 ex18 => ?_)
            have tx18 : x18.toInt = (x1 - x3).toInt := by rw [ex18]
            refine lv_goto (tgt := 187) hx hb dX11_turned_180 (by decide) ?_
            exact hret H locs ls 187 x18 G dX11_turned_187 ⟨rfl, trivial⟩ hT hS
        · skip
          refine lv_iload_n hx hb dX11_turned_154 rfl (lv_at hl 3 rfl) ?_
          refine lv_iload hx hb dX11_turned_155 (lv_at hl 2 rfl) ?_
          refine lv_iadd hx hb dX11_turned_157 ?_
          refine lv_topi (fun x19 ex19 => ?_)
          have tx19 : x19.toInt = (x1 + x3).toInt := by rw [ex19]
          refine lv_iconst (v := (2 : Int32)) hx hb dX11_turned_158 (by decide) ?_
          refine lv_iload hx hb dX11_turned_159 (lv_at hl 1 rfl) ?_
          refine lv_imul hx hb dX11_turned_161 ?_
          refine lv_topi (fun x20 ex20 => ?_)
          have tx20 : x20.toInt = ((2 : Int32) * x5).toInt := by rw [ex20]
          refine lv_isub hx hb dX11_turned_162 ?_
          refine lv_topi (fun x21 ex21 => ?_)
          have tx21 : x21.toInt = (x19 - x20).toInt := by rw [ex21]
          refine lv_goto (tgt := 187) hx hb dX11_turned_163 (by decide) ?_
          exact hret H locs ls 187 x21 G dX11_turned_187 ⟨rfl, trivial⟩ hT hS
      · skip
        refine lv_iload_n hx hb dX11_turned_121 rfl (lv_at hl 3 rfl) ?_
        refine lv_iload hx hb dX11_turned_122 (lv_at hl 2 rfl) ?_
        refine lv_iadd hx hb dX11_turned_124 ?_
        refine lv_topi (fun x22 ex22 => ?_)
        have tx22 : x22.toInt = (x1 + x3).toInt := by rw [ex22]
        refine lv_iconst (v := (2 : Int32)) hx hb dX11_turned_125 (by decide) ?_
        refine lv_iload hx hb dX11_turned_126 (lv_at hl 1 rfl) ?_
        refine lv_imul hx hb dX11_turned_128 ?_
        refine lv_topi (fun x23 ex23 => ?_)
        have tx23 : x23.toInt = ((2 : Int32) * x5).toInt := by rw [ex23]
        refine lv_iadd hx hb dX11_turned_129 ?_
        refine lv_topi (fun x24 ex24 => ?_)
        have tx24 : x24.toInt = (x22 + x23).toInt := by rw [ex24]
        refine lv_iload_n hx hb dX11_turned_130 rfl (lv_at hl 6 rfl) ?_
        refine lv_iconst (v := (2 : Int32)) hx hb dX11_turned_131 (by decide) ?_
        refine tb_icmp_ne (tgt := 143) hx hb dX11_turned_132 (by decide) (fun c25 => ?_) (fun c25 => ?_)
        · skip
          refine lv_iconst (v := (4 : Int32)) hx hb dX11_turned_143 (by decide) ?_
          refine lv_iload hx hb dX11_turned_144 (lv_at hl 0 rfl) ?_
          refine lv_imul hx hb dX11_turned_146 ?_
          refine lv_topi (fun x26 ex26 => ?_)
          have tx26 : x26.toInt = ((4 : Int32) * x7).toInt := by rw [ex26]
          refine lv_iadd hx hb dX11_turned_147 ?_
          refine lv_topi (fun x27 ex27 => ?_)
          have tx27 : x27.toInt = (x24 + x26).toInt := by rw [ex27]
          exact hret H locs ls 148 x27 G dX11_turned_148 ⟨rfl, trivial⟩ hT hS
        · skip
          refine lv_bipush (v := (-4 : Int32)) hx hb dX11_turned_135 (by decide) ?_
          refine lv_iload hx hb dX11_turned_137 (lv_at hl 0 rfl) ?_
          refine lv_imul hx hb dX11_turned_139 ?_
          refine lv_topi (fun x28 ex28 => ?_)
          have tx28 : x28.toInt = ((-4 : Int32) * x7).toInt := by rw [ex28]
          refine lv_goto (tgt := 147) hx hb dX11_turned_140 (by decide) ?_
          refine lv_iadd hx hb dX11_turned_147 ?_
          refine lv_topi (fun x29 ex29 => ?_)
          have tx29 : x29.toInt = (x24 + x28).toInt := by rw [ex29]
          exact hret H locs ls 148 x29 G dX11_turned_148 ⟨rfl, trivial⟩ hT hS
    · skip
      refine lv_iload_n hx hb dX11_turned_41 rfl (lv_at hl 6 rfl) ?_
      refine tb_if_ne (tgt := 65) hx hb dX11_turned_42 (by decide) (fun c30 => ?_) (fun c30 => ?_)
      · skip
        refine lv_iload_n hx hb dX11_turned_65 rfl (lv_at hl 6 rfl) ?_
        refine lv_iconst (v := (1 : Int32)) hx hb dX11_turned_66 (by decide) ?_
        refine tb_icmp_ne (tgt := 90) hx hb dX11_turned_67 (by decide) (fun c31 => ?_) (fun c31 => ?_)
        · skip
          refine lv_iload_n hx hb dX11_turned_90 rfl (lv_at hl 6 rfl) ?_
          refine lv_iconst (v := (2 : Int32)) hx hb dX11_turned_91 (by decide) ?_
          refine tb_icmp_ne (tgt := 102) hx hb dX11_turned_92 (by decide) (fun c32 => ?_) (fun c32 => ?_)
          · skip
            refine lv_iload_n hx hb dX11_turned_102 rfl (lv_at hl 6 rfl) ?_
            refine lv_iconst (v := (3 : Int32)) hx hb dX11_turned_103 (by decide) ?_
            refine tb_icmp_ne (tgt := 114) hx hb dX11_turned_104 (by decide) (fun c33 => ?_) (fun c33 => ?_)
            · skip
              refine lv_iconst (v := (0 : Int32)) hx hb dX11_turned_114 (by decide) ?_
              exact hret H locs ls 115 (0 : Int32) G dX11_turned_115 ⟨rfl, trivial⟩ hT hS
            · skip
              refine lv_iconst (v := (4 : Int32)) hx hb dX11_turned_107 (by decide) ?_
              refine lv_iload hx hb dX11_turned_108 (lv_at hl 0 rfl) ?_
              refine lv_imul hx hb dX11_turned_110 ?_
              refine lv_topi (fun x34 ex34 => ?_)
              have tx34 : x34.toInt = ((4 : Int32) * x7).toInt := by rw [ex34]
              refine lv_goto (tgt := 115) hx hb dX11_turned_111 (by decide) ?_
              exact hret H locs ls 115 x34 G dX11_turned_115 ⟨rfl, trivial⟩ hT hS
          · skip
            refine lv_iconst (v := (4 : Int32)) hx hb dX11_turned_95 (by decide) ?_
            refine lv_iload hx hb dX11_turned_96 (lv_at hl 1 rfl) ?_
            refine lv_imul hx hb dX11_turned_98 ?_
            refine lv_topi (fun x35 ex35 => ?_)
            have tx35 : x35.toInt = ((4 : Int32) * x5).toInt := by rw [ex35]
            refine lv_goto (tgt := 115) hx hb dX11_turned_99 (by decide) ?_
            exact hret H locs ls 115 x35 G dX11_turned_115 ⟨rfl, trivial⟩ hT hS
        · skip
          refine lv_iconst (v := (4 : Int32)) hx hb dX11_turned_70 (by decide) ?_
          refine lv_aload_n hx hb dX11_turned_71 rfl (lv_at hl 4 rfl) ?_
          refine gf_11_15 hx hb hts hin11 hown hK hT k0 hfl41 dX11_turned_72 (fun a36 ka36 fva36 => ?_)
          obtain rfl : a9 = a36 := eRef (FV.eq fva9 fva36)
          refine lv_iload_n hx hb dX11_turned_75 rfl (lv_at hl 5 rfl) ?_
          refine tw_ia (K := 1060) (n := 60) (P := fun _ => True) hx hb hK hT ka9 (by decide) rfl rfl (by omega) rfl dX11_turned_76 (fun x37 _ fvx37 => ?_)
          obtain rfl : x10 = x37 := eInt (AV.eq fvx10 fvx37)
          refine tb_if_ne (tgt := 85) hx hb dX11_turned_77 (by decide) (fun c38 => ?_) (fun c38 => ?_)
          · skip
            refine lv_iload_n hx hb dX11_turned_85 rfl (lv_at hl 3 rfl) ?_
            refine lv_imul hx hb dX11_turned_86 ?_
            refine lv_topi (fun x39 ex39 => ?_)
            have tx39 : x39.toInt = ((4 : Int32) * x1).toInt := by rw [ex39]
            refine lv_goto (tgt := 115) hx hb dX11_turned_87 (by decide) ?_
            exact hret H locs ls 115 x39 G dX11_turned_115 ⟨rfl, trivial⟩ hT hS
          · skip
            refine lv_iload hx hb dX11_turned_80 (lv_at hl 2 rfl) ?_
            refine lv_goto (tgt := 86) hx hb dX11_turned_82 (by decide) ?_
            refine lv_imul hx hb dX11_turned_86 ?_
            refine lv_topi (fun x40 ex40 => ?_)
            have tx40 : x40.toInt = ((4 : Int32) * x3).toInt := by rw [ex40]
            refine lv_goto (tgt := 115) hx hb dX11_turned_87 (by decide) ?_
            exact hret H locs ls 115 x40 G dX11_turned_115 ⟨rfl, trivial⟩ hT hS
      · skip
        refine lv_iconst (v := (4 : Int32)) hx hb dX11_turned_45 (by decide) ?_
        refine lv_aload_n hx hb dX11_turned_46 rfl (lv_at hl 4 rfl) ?_
        refine gf_11_15 hx hb hts hin11 hown hK hT k0 hfl41 dX11_turned_47 (fun a41 ka41 fva41 => ?_)
        obtain rfl : a9 = a41 := eRef (FV.eq fva9 fva41)
        refine lv_iload_n hx hb dX11_turned_50 rfl (lv_at hl 5 rfl) ?_
        refine tw_ia (K := 1060) (n := 60) (P := fun _ => True) hx hb hK hT ka9 (by decide) rfl rfl (by omega) rfl dX11_turned_51 (fun x42 _ fvx42 => ?_)
        obtain rfl : x10 = x42 := eInt (AV.eq fvx10 fvx42)
        refine tb_if_ne (tgt := 59) hx hb dX11_turned_52 (by decide) (fun c43 => ?_) (fun c43 => ?_)
        · skip
          refine lv_iload hx hb dX11_turned_59 (lv_at hl 2 rfl) ?_
          refine lv_imul hx hb dX11_turned_61 ?_
          refine lv_topi (fun x44 ex44 => ?_)
          have tx44 : x44.toInt = ((4 : Int32) * x3).toInt := by rw [ex44]
          refine lv_goto (tgt := 115) hx hb dX11_turned_62 (by decide) ?_
          exact hret H locs ls 115 x44 G dX11_turned_115 ⟨rfl, trivial⟩ hT hS
        · skip
          refine lv_iload_n hx hb dX11_turned_55 rfl (lv_at hl 3 rfl) ?_
          refine lv_goto (tgt := 61) hx hb dX11_turned_56 (by decide) ?_
          refine lv_imul hx hb dX11_turned_61 ?_
          refine lv_topi (fun x45 ex45 => ?_)
          have tx45 : x45.toInt = ((4 : Int32) * x1).toInt := by rw [ex45]
          refine lv_goto (tgt := 115) hx hb dX11_turned_62 (by decide) ?_
          exact hret H locs ls 115 x45 G dX11_turned_115 ⟨rfl, trivial⟩ hT hS
  exact main s.heap [] hT va_S.rf

abbrev rmX11_layer : Room := { frames := 3, cells := 0, slots := 0, locals := 65 }
set_option maxHeartbeats 4000000 in
set_option maxRecDepth 100000 in
theorem c_X11_layer (l : Launch) (D : va_G) (cy : Nat → ClassId) (κ : Nat → Nat) (G : Gh) (p0 : Nat) (k0 : κ p0 = 12) (p1 : Int32) (p2 : Int32) (p3 : Int32) : Met l yX11_layer wsX11_layer rmX11_layer (va_Pc [.ref p0, .int p1, .int p2, .int p3] (fun U => WW D cy κ G U)) (va_Qi (fun (r : Int32) (u : Gh) => u = G ∧ (True)) (fun u t => WW D cy κ u t) (AA κ)) 0 0 (AA κ) := by
  refine Met.twi (cc := cX11_layer) (maxL := 5) (by decide) rfl (Nat.le_of_ble_eq_true rfl) ?_
  intro p e s m args below meth c Q hx hb hml hown hts hK hT hret ls hl
  have hl : lv_has ls 5 [(0, .ref p0), (1, .int p1), (2, .int p2), (3, .int p3)] := hl
  have hcm1 : (-1 : Int32).toInt = -1 := rfl
  have hc0 : (0 : Int32).toInt = 0 := rfl
  have hc9 : (9 : Int32).toInt = 9 := rfl
  have hc4 : (4 : Int32).toInt = 4 := rfl
  have hfl38 := hts (.fieldLink RX11 38 "PlyPlatesModel" "stuff" "[I") (by decide +kernel)
  have hin11 : ∀ w ∈ u_ws RX11 TX11 31, w ∈ wsX11_layer := by decide +kernel
  have hfl41 := hts (.fieldLink RX11 41 "PlyPlatesModel" "way" "[I") (by decide +kernel)
  have hfl44 := hts (.fieldLink RX11 44 "PlyPlatesModel" "thick" "[I") (by decide +kernel)
  have hfl47 := hts (.fieldLink RX11 47 "PlyPlatesModel" "broken" "[I") (by decide +kernel)
  have main : ∀ (H : Heap) (locs : List Loc), TW D cy κ G H → va_S (AA κ) s.heap H locs → W p l e rmX11_layer s m args below meth c H locs 0 0 Q (F0 m 0 ls []) := by
    intro H locs hT hS
    refine lv_aload_n hx hb dX11_layer_0 rfl (lv_at hl 0 rfl) ?_
    refine lv_iload_n hx hb dX11_layer_1 rfl (lv_at hl 1 rfl) ?_
    refine lv_iload_n hx hb dX11_layer_2 rfl (lv_at hl 2 rfl) ?_
    refine tw_Vi (q := (RX11, TX11, 31)) (As := [.int p1, .int p2]) (rest := []) ⟨hx, hb, hml, hown, hts⟩ (c_X11_isLayer l D cy κ G p0 k0 p1 p2) (cwV 2 hts gX11_layer_X11_isLayer rfl rfl rfl (by decide +kernel) ⟨Nat.le_of_ble_eq_true rfl, Nat.le_of_ble_eq_true rfl⟩) hK hT hS k0 (by decide) rfl rfl hl.1 rfl (Nat.le_of_ble_eq_true rfl) dX11_layer_3 ⟨Nat.zero_le _, Nat.zero_le _⟩ (fun x1 u2 H locs hpu2 hT hS => ?_)
    obtain ⟨huu2, qu2⟩ := hpu2
    rw [huu2] at hT
    refine tb_if_eq (tgt := 19) hx hb dX11_layer_6 (by decide) (fun c3 => ?_) (fun c3 => ?_)
    · skip
      refine lv_iconst (v := (-1 : Int32)) hx hb dX11_layer_19 (by decide) ?_
      exact hret H locs ls 20 (-1 : Int32) G dX11_layer_20 ⟨rfl, trivial⟩ hT hS
    · skip
      refine lv_iload_n hx hb dX11_layer_9 rfl (lv_at hl 3 rfl) ?_
      refine lv_iconst (v := (0 : Int32)) hx hb dX11_layer_10 (by decide) ?_
      refine lv_bipush (v := (9 : Int32)) hx hb dX11_layer_11 (by decide) ?_
      refine tw_Si (As := [.int p3, .int (0 : Int32), .int (9 : Int32)]) (rest := []) ⟨hx, hb, hml, hown, hts⟩ (c_X11_isIn l D cy κ G p3 (0 : Int32) (9 : Int32)) (va_cwS 3 hts gX11_layer_X11_isIn rfl rfl rfl (by decide +kernel) ⟨Nat.le_of_ble_eq_true rfl, Nat.le_of_ble_eq_true rfl⟩) hK hT hS rfl hl.1 rfl (Nat.le_of_ble_eq_true rfl) dX11_layer_13 ⟨Nat.zero_le _, Nat.zero_le _⟩ (fun x4 u5 H locs hpu5 hT hS => ?_)
      obtain ⟨huu5, qu5⟩ := hpu5
      rw [huu5] at hT
      refine tb_if_ne (tgt := 21) hx hb dX11_layer_16 (by decide) (fun c6 => ?_) (fun c6 => ?_)
      · skip
        refine lv_iload_n hx hb dX11_layer_21 rfl (lv_at hl 1 rfl) ?_
        refine lv_iload_n hx hb dX11_layer_22 rfl (lv_at hl 2 rfl) ?_
        refine tw_Si (As := [.int p1, .int p2]) (rest := []) ⟨hx, hb, hml, hown, hts⟩ (c_X11_spot l D cy κ G p1 (by omega) p2 (by omega)) (va_cwS 2 hts gX11_layer_X11_spot rfl rfl rfl (by decide +kernel) ⟨Nat.le_of_ble_eq_true rfl, Nat.le_of_ble_eq_true rfl⟩) hK hT hS rfl hl.1 rfl (Nat.le_of_ble_eq_true rfl) dX11_layer_23 ⟨Nat.zero_le _, Nat.zero_le _⟩ (fun x7 u8 H locs hpu8 hT hS => ?_)
        obtain ⟨huu8, qu8⟩ := hpu8
        rw [huu8] at hT
        refine lv_istore (lv' := [(4, .int x7), (0, .ref p0), (1, .int p1), (2, .int p2), (3, .int p3)]) hx hb dX11_layer_26 hl (by decide) rfl (fun ls hl => ?_)
        refine lv_iload_n hx hb dX11_layer_28 rfl (lv_at hl 4 rfl) ?_
        rcases (show p3.toInt < 0 ∨ 3 < p3.toInt ∨ p3.toInt = 0 ∨ p3.toInt = 1 ∨ p3.toInt = 2 ∨ p3.toInt = 3 by omega) with c9 | c9 | c9 | c9 | c9 | c9
        · refine lv_tableOut (tgt := 92) hx hb dX11_layer_29 (Or.inl c9) (by decide) ?_
          refine lv_aload_n hx hb dX11_layer_92 rfl (lv_at hl 1 rfl) ?_
          refine lv_iload hx hb dX11_layer_93 (lv_at hl 0 rfl) ?_
          refine lv_iload_n hx hb dX11_layer_95 rfl (lv_at hl 4 rfl) ?_
          refine lv_iconst (v := (4 : Int32)) hx hb dX11_layer_96 (by decide) ?_
          refine lv_isub hx hb dX11_layer_97 ?_
          refine lv_topi (fun x10 ex10 => ?_)
          have tx10 : x10.toInt = p3.toInt - (4 : Int32).toInt := by rw [ex10]; exact ti_sub (by have := i32b p3; have := i32b (4 : Int32); omega)
          refine tw_Vi (q := (RX11, TX11, 31)) (As := [.int x7, .int x10]) (rest := []) ⟨hx, hb, hml, hown, hts⟩ (c_X11_turned l D cy κ G p0 k0 x7 (by omega) x10) (cwV 2 hts gX11_layer_X11_turned rfl rfl rfl (by decide +kernel) ⟨Nat.le_of_ble_eq_true rfl, Nat.le_of_ble_eq_true rfl⟩) hK hT hS k0 (by decide) rfl rfl hl.1 rfl (Nat.le_of_ble_eq_true rfl) dX11_layer_98 ⟨Nat.zero_le _, Nat.zero_le _⟩ (fun x11 u12 H locs hpu12 hT hS => ?_)
          obtain ⟨huu12, qu12⟩ := hpu12
          rw [huu12] at hT
          exact hret H locs ls 101 x11 G dX11_layer_101 ⟨rfl, trivial⟩ hT hS
        · refine lv_tableOut (tgt := 92) hx hb dX11_layer_29 (Or.inr c9) (by decide) ?_
          refine lv_aload_n hx hb dX11_layer_92 rfl (lv_at hl 1 rfl) ?_
          refine lv_iload hx hb dX11_layer_93 (lv_at hl 0 rfl) ?_
          refine lv_iload_n hx hb dX11_layer_95 rfl (lv_at hl 4 rfl) ?_
          refine lv_iconst (v := (4 : Int32)) hx hb dX11_layer_96 (by decide) ?_
          refine lv_isub hx hb dX11_layer_97 ?_
          refine lv_topi (fun x13 ex13 => ?_)
          have tx13 : x13.toInt = p3.toInt - (4 : Int32).toInt := by rw [ex13]; exact ti_sub (by have := i32b p3; have := i32b (4 : Int32); omega)
          refine tw_Vi (q := (RX11, TX11, 31)) (As := [.int x7, .int x13]) (rest := []) ⟨hx, hb, hml, hown, hts⟩ (c_X11_turned l D cy κ G p0 k0 x7 (by omega) x13) (cwV 2 hts gX11_layer_X11_turned rfl rfl rfl (by decide +kernel) ⟨Nat.le_of_ble_eq_true rfl, Nat.le_of_ble_eq_true rfl⟩) hK hT hS k0 (by decide) rfl rfl hl.1 rfl (Nat.le_of_ble_eq_true rfl) dX11_layer_98 ⟨Nat.zero_le _, Nat.zero_le _⟩ (fun x14 u15 H locs hpu15 hT hS => ?_)
          obtain ⟨huu15, qu15⟩ := hpu15
          rw [huu15] at hT
          exact hret H locs ls 101 x14 G dX11_layer_101 ⟨rfl, trivial⟩ hT hS
        · refine lv_tableIn (off := 31) (tgt := 60) hx hb dX11_layer_29 (by omega) (by omega) (by rw [c9]; rfl) (by decide) ?_
          refine lv_aload_n hx hb dX11_layer_60 rfl (lv_at hl 1 rfl) ?_
          refine gf_11_14 hx hb hts hin11 hown hK hT k0 hfl38 dX11_layer_61 (fun a16 ka16 fva16 => ?_)
          refine lv_iload hx hb dX11_layer_64 (lv_at hl 0 rfl) ?_
          refine tw_ia (K := 51) (n := 60) (P := fun x => (0 ≤ x.toInt ∧ x.toInt ≤ 2) ∧ (x.toInt = 0 ∨ x.toInt < (G.1 3).toInt)) hx hb hK hT ka16 (by decide) rfl rfl (by omega) rfl dX11_layer_66 (fun x17 kx17 fvx17 => ?_)
          have kx17 : (0 ≤ x17.toInt ∧ x17.toInt ≤ 2) ∧ (x17.toInt = 0 ∨ x17.toInt < (G.1 3).toInt) := kx17
          exact hret H locs ls 67 x17 G dX11_layer_67 ⟨rfl, trivial⟩ hT hS
        · refine lv_tableIn (off := 39) (tgt := 68) hx hb dX11_layer_29 (by omega) (by omega) (by rw [c9]; rfl) (by decide) ?_
          refine lv_aload_n hx hb dX11_layer_68 rfl (lv_at hl 1 rfl) ?_
          refine gf_11_15 hx hb hts hin11 hown hK hT k0 hfl41 dX11_layer_69 (fun a18 ka18 fva18 => ?_)
          refine lv_iload hx hb dX11_layer_72 (lv_at hl 0 rfl) ?_
          refine tw_ia (K := 1060) (n := 60) (P := fun _ => True) hx hb hK hT ka18 (by decide) rfl rfl (by omega) rfl dX11_layer_74 (fun x19 _ fvx19 => ?_)
          exact hret H locs ls 75 x19 G dX11_layer_75 ⟨rfl, trivial⟩ hT hS
        · refine lv_tableIn (off := 47) (tgt := 76) hx hb dX11_layer_29 (by omega) (by omega) (by rw [c9]; rfl) (by decide) ?_
          refine lv_aload_n hx hb dX11_layer_76 rfl (lv_at hl 1 rfl) ?_
          refine gf_11_16 hx hb hts hin11 hown hK hT k0 hfl44 dX11_layer_77 (fun a20 ka20 fva20 => ?_)
          refine lv_iload hx hb dX11_layer_80 (lv_at hl 0 rfl) ?_
          refine tw_ia (K := 1060) (n := 60) (P := fun _ => True) hx hb hK hT ka20 (by decide) rfl rfl (by omega) rfl dX11_layer_82 (fun x21 _ fvx21 => ?_)
          exact hret H locs ls 83 x21 G dX11_layer_83 ⟨rfl, trivial⟩ hT hS
        · refine lv_tableIn (off := 55) (tgt := 84) hx hb dX11_layer_29 (by omega) (by omega) (by rw [c9]; rfl) (by decide) ?_
          refine lv_aload_n hx hb dX11_layer_84 rfl (lv_at hl 1 rfl) ?_
          refine gf_11_17 hx hb hts hin11 hown hK hT k0 hfl47 dX11_layer_85 (fun a22 ka22 fva22 => ?_)
          refine lv_iload hx hb dX11_layer_88 (lv_at hl 0 rfl) ?_
          refine tw_ia (K := 52) (n := 60) (P := fun x => x = G.1 (200 + x7.toInt.toNat) ∧ (0 ≤ x.toInt ∧ x.toInt ≤ 2)) hx hb hK hT ka22 (by decide) rfl rfl (by omega) rfl dX11_layer_90 (fun x23 kx23 fvx23 => ?_)
          have kx23 : x23 = G.1 (200 + x7.toInt.toNat) ∧ (0 ≤ x23.toInt ∧ x23.toInt ≤ 2) := kx23
          have gx23 := congrArg Int32.toInt kx23.1
          have rx23 := kx23.2
          exact hret H locs ls 91 x23 G dX11_layer_91 ⟨rfl, trivial⟩ hT hS
      · skip
        refine lv_iconst (v := (-1 : Int32)) hx hb dX11_layer_19 (by decide) ?_
        exact hret H locs ls 20 (-1 : Int32) G dX11_layer_20 ⟨rfl, trivial⟩ hT hS
  exact main s.heap [] hT va_S.rf

abbrev rmX11_height : Room := { frames := 1, cells := 0, slots := 0, locals := 21 }
set_option maxHeartbeats 4000000 in
set_option maxRecDepth 100000 in
theorem c_X11_height (l : Launch) (D : va_G) (cy : Nat → ClassId) (κ : Nat → Nat) (G : Gh) (p0 : Nat) (k0 : κ p0 = 12) (p1 : Int32) (q1 : 0 ≤ p1.toInt ∧ p1.toInt ≤ 4) : Met l yX11_height wsX11_height rmX11_height (va_Pc [.ref p0, .int p1] (fun U => WW D cy κ G U)) (va_Qi (fun (r : Int32) (u : Gh) => u = G ∧ (True)) (fun u t => WW D cy κ u t) (AA κ)) 0 0 (AA κ) := by
  refine Met.twi (cc := cX11_height) (maxL := 4) (by decide) rfl (Nat.le_of_ble_eq_true rfl) ?_
  intro p e s m args below meth c Q hx hb hml hown hts hK hT hret ls hl
  have hl : lv_has ls 4 [(0, .ref p0), (1, .int p1)] := hl
  have hc0 : (0 : Int32).toInt = 0 := rfl
  have hfl35 := hts (.fieldLink RX11 35 "PlyPlatesModel" "many" "[I") (by decide +kernel)
  have hin11 : ∀ w ∈ u_ws RX11 TX11 31, w ∈ wsX11_height := by decide +kernel
  have hfl44 := hts (.fieldLink RX11 44 "PlyPlatesModel" "thick" "[I") (by decide +kernel)
  have hc1 : (1 : Int32).toInt = 1 := rfl
  have main : ∀ (H : Heap) (locs : List Loc), TW D cy κ G H → va_S (AA κ) s.heap H locs → W p l e rmX11_height s m args below meth c H locs 0 0 Q (F0 m 0 ls []) := by
    intro H locs hT hS
    refine lv_iconst (v := (0 : Int32)) hx hb dX11_height_0 (by decide) ?_
    refine lv_istore_n (lv' := [(2, .int (0 : Int32)), (0, .ref p0), (1, .int p1)]) hx hb dX11_height_1 rfl hl (by decide) rfl (fun ls hl => ?_)
    refine lv_iconst (v := (0 : Int32)) hx hb dX11_height_2 (by decide) ?_
    refine lv_istore_n (lv' := [(3, .int (0 : Int32)), (2, .int (0 : Int32)), (0, .ref p0), (1, .int p1)]) hx hb dX11_height_3 rfl hl (by decide) rfl (fun ls hl => ?_)
    have L4 : ∀ (nn : Nat) (H : Heap) (locs : List Loc) (ls : Array Slot) (x1 : Int32) (x2 : Int32), (nn = (2147483647 - x1.toInt).toNat) → (TW D cy κ G H) → (va_S (AA κ) s.heap H locs) → (lv_has ls 4 [(3, .int x1), (2, .int x2), (0, .ref p0), (1, .int p1)]) → (0 ≤ x1.toInt ∧ x1.toInt ≤ 12) → W p l e rmX11_height s m args below meth c H locs 0 0 Q (F0 m 4 ls []) := by
      intro nn
      induction nn using Nat.strongRecOn with
      | _ nn ih4 =>
        intro H locs ls x1 x2 hnn hT hS hl fL4_0
        refine lv_iload_n hx hb dX11_height_4 rfl (lv_at hl 0 rfl) ?_
        refine lv_aload_n hx hb dX11_height_5 rfl (lv_at hl 2 rfl) ?_
        refine gf_11_13 hx hb hts hin11 hown hK hT k0 hfl35 dX11_height_6 (fun a3 ka3 fva3 => ?_)
        refine lv_iload_n hx hb dX11_height_9 rfl (lv_at hl 3 rfl) ?_
        refine tw_ia (K := 50) (n := 5) (P := fun x => x = G.1 (100 + p1.toInt.toNat) ∧ (0 ≤ x.toInt ∧ x.toInt ≤ 12) ∧ ((G.1 3).toInt = 0 → x.toInt = 0)) hx hb hK hT ka3 (by decide) rfl rfl (by omega) rfl dX11_height_10 (fun x4 kx4 fvx4 => ?_)
        have kx4 : x4 = G.1 (100 + p1.toInt.toNat) ∧ (0 ≤ x4.toInt ∧ x4.toInt ≤ 12) ∧ ((G.1 3).toInt = 0 → x4.toInt = 0) := kx4
        have gx4 := congrArg Int32.toInt kx4.1
        have rx4 := kx4.2
        refine tb_icmp_ge (tgt := 33) hx hb dX11_height_11 (by decide) (fun c5 => ?_) (fun c5 => ?_)
        · skip
          refine lv_iload_n hx hb dX11_height_33 rfl (lv_at hl 1 rfl) ?_
          exact hret H locs ls 34 x2 G dX11_height_34 ⟨rfl, trivial⟩ hT hS
        · skip
          refine lv_iload_n hx hb dX11_height_14 rfl (lv_at hl 1 rfl) ?_
          refine lv_aload_n hx hb dX11_height_15 rfl (lv_at hl 2 rfl) ?_
          refine gf_11_16 hx hb hts hin11 hown hK hT k0 hfl44 dX11_height_16 (fun a6 ka6 fva6 => ?_)
          refine lv_iload_n hx hb dX11_height_19 rfl (lv_at hl 3 rfl) ?_
          refine lv_iload_n hx hb dX11_height_20 rfl (lv_at hl 0 rfl) ?_
          refine tw_Si (As := [.int p1, .int x1]) (rest := [.ref a6, .int x2]) ⟨hx, hb, hml, hown, hts⟩ (c_X11_spot l D cy κ G p1 (by omega) x1 (by omega)) (va_cwS 2 hts gX11_height_X11_spot rfl rfl rfl (by decide +kernel) ⟨Nat.le_of_ble_eq_true rfl, Nat.le_of_ble_eq_true rfl⟩) hK hT hS rfl hl.1 rfl (Nat.le_of_ble_eq_true rfl) dX11_height_21 ⟨Nat.zero_le _, Nat.zero_le _⟩ (fun x7 u8 H locs hpu8 hT hS => ?_)
          obtain ⟨huu8, qu8⟩ := hpu8
          rw [huu8] at hT
          refine tw_ia (K := 1060) (n := 60) (P := fun _ => True) hx hb hK hT ka6 (by decide) rfl rfl (by omega) rfl dX11_height_24 (fun x9 _ fvx9 => ?_)
          refine lv_iadd hx hb dX11_height_25 ?_
          refine lv_topi (fun x10 ex10 => ?_)
          have tx10 : x10.toInt = (x2 + x9).toInt := by rw [ex10]
          refine lv_istore_n (lv' := [(2, .int x10), (3, .int x1), (0, .ref p0), (1, .int p1)]) hx hb dX11_height_26 rfl hl (by decide) rfl (fun ls hl => ?_)
          obtain ⟨x11, ex11⟩ : ∃ z : Int32, z = x1 + (1 : Int32) := ⟨_, rfl⟩
          refine lv_iinc (v := x11) (lv' := [(3, .int x11), (2, .int x10), (0, .ref p0), (1, .int p1)]) hx hb dX11_height_27 hl (k := 1) rfl (by rw [ex11]; rfl) (by decide) rfl (fun ls hl => ?_)
          have tx11 : x11.toInt = x1.toInt + 1 := by rw [ex11, ti_add (by have := i32b x1; have := i32b x10; have := i32b p1; omega), hc1]
          refine lv_goto (tgt := 4) hx hb dX11_height_30 (by decide) ?_
          exact ih4 ((2147483647 - x11.toInt).toNat) (by have := i32b x11; have := i32b x10; have := i32b p1; omega) H locs ls x11 x10 rfl hT hS (lv_sub hl [0, 1, 2, 3] rfl) (by omega)
    exact L4 _ H locs ls (0 : Int32) (0 : Int32) rfl hT hS (lv_sub hl [0, 1, 2, 3] rfl) (by omega)
  exact main s.heap [] hT va_S.rf

abbrev rmX11_tableOf : Room := { frames := 2, cells := 0, slots := 0, locals := 49 }
set_option maxHeartbeats 4000000 in
set_option maxRecDepth 100000 in
theorem c_X11_tableOf (l : Launch) (D : va_G) (cy : Nat → ClassId) (κ : Nat → Nat) (G : Gh) (p0 : Nat) (k0 : κ p0 = 12) (p1 : Int32) (q1 : 0 ≤ p1.toInt ∧ p1.toInt ≤ 4) (p2 : Int32) (p3 : Int32) : Met l yX11_tableOf wsX11_tableOf rmX11_tableOf (va_Pc [.ref p0, .int p1, .int p2, .int p3] (fun U => WW D cy κ G U)) (va_Ql (fun (r : Int64) (u : Gh) => u = G ∧ (True)) (fun u t => WW D cy κ u t) (AA κ)) 0 0 (AA κ) := by
  refine Met.twl (cc := cX11_tableOf) (maxL := 12) (by decide) rfl (Nat.le_of_ble_eq_true rfl) ?_
  intro p e s m args below meth c Q hx hb hml hown hts hK hT hret ls hl
  have hl : lv_has ls 12 [(0, .ref p0), (1, .int p1), (2, .int p2), (3, .int p3)] := hl
  have hlc0 : (0 : Int64).toInt = 0 := rfl
  have hc0 : (0 : Int32).toInt = 0 := rfl
  have hfl35 := hts (.fieldLink RX11 35 "PlyPlatesModel" "many" "[I") (by decide +kernel)
  have hin11 : ∀ w ∈ u_ws RX11 TX11 31, w ∈ wsX11_tableOf := by decide +kernel
  have hc2 : (2 : Int32).toInt = 2 := rfl
  have hfl44 := hts (.fieldLink RX11 44 "PlyPlatesModel" "thick" "[I") (by decide +kernel)
  have hc1 : (1 : Int32).toInt = 1 := rfl
  have main : ∀ (H : Heap) (locs : List Loc), TW D cy κ G H → va_S (AA κ) s.heap H locs → W p l e rmX11_tableOf s m args below meth c H locs 0 0 Q (F0 m 0 ls []) := by
    intro H locs hT hS
    refine lv_lconst (v := 0) hx hb dX11_tableOf_0 (by decide) ?_
    refine lv_lstore (lv' := [(4, .long (0 : Int64)), (0, .ref p0), (1, .int p1), (2, .int p2), (3, .int p3)]) hx hb dX11_tableOf_1 hl (by decide) rfl (fun ls hl => ?_)
    refine lv_aload_n hx hb dX11_tableOf_3 rfl (lv_at hl 1 rfl) ?_
    refine lv_iload_n hx hb dX11_tableOf_4 rfl (lv_at hl 2 rfl) ?_
    refine tw_Vi (q := (RX11, TX11, 31)) (As := [.int p1]) (rest := []) ⟨hx, hb, hml, hown, hts⟩ (c_X11_height l D cy κ G p0 k0 p1 (by omega)) (cwV 1 hts gX11_tableOf_X11_height rfl rfl rfl (by decide +kernel) ⟨Nat.le_of_ble_eq_true rfl, Nat.le_of_ble_eq_true rfl⟩) hK hT hS k0 (by decide) rfl rfl hl.1 rfl (Nat.le_of_ble_eq_true rfl) dX11_tableOf_5 ⟨Nat.zero_le _, Nat.zero_le _⟩ (fun x1 u2 H locs hpu2 hT hS => ?_)
    obtain ⟨huu2, qu2⟩ := hpu2
    rw [huu2] at hT
    refine lv_ineg hx hb dX11_tableOf_8 ?_
    refine lv_topi (fun x3 _ => ?_)
    refine lv_i2l hx hb dX11_tableOf_9 rfl ?_
    refine lv_topl (fun y4 ey4 => ?_)
    have ty4 : y4.toInt = x3.toInt := by rw [ey4]; exact Int32.toInt_toInt64 x3
    refine lv_lstore (lv' := [(6, .long y4), (4, .long (0 : Int64)), (0, .ref p0), (1, .int p1), (2, .int p2), (3, .int p3)]) hx hb dX11_tableOf_10 hl (by decide) rfl (fun ls hl => ?_)
    refine lv_iconst (v := (0 : Int32)) hx hb dX11_tableOf_12 (by decide) ?_
    refine lv_istore (lv' := [(8, .int (0 : Int32)), (6, .long y4), (4, .long (0 : Int64)), (0, .ref p0), (1, .int p1), (2, .int p2), (3, .int p3)]) hx hb dX11_tableOf_13 hl (by decide) rfl (fun ls hl => ?_)
    have L15 : ∀ (nn : Nat) (H : Heap) (locs : List Loc) (ls : Array Slot) (x5 : Int32) (y6 : Int64) (y7 : Int64), (nn = (2147483647 - x5.toInt).toNat) → (TW D cy κ G H) → (va_S (AA κ) s.heap H locs) → (lv_has ls 12 [(8, .int x5), (6, .long y6), (4, .long y7), (0, .ref p0), (1, .int p1), (2, .int p2), (3, .int p3)]) → (0 ≤ x5.toInt ∧ x5.toInt ≤ 12) → W p l e rmX11_tableOf s m args below meth c H locs 0 0 Q (F0 m 15 ls []) := by
      intro nn
      induction nn using Nat.strongRecOn with
      | _ nn ih15 =>
        intro H locs ls x5 y6 y7 hnn hT hS hl fL15_0
        refine lv_iload hx hb dX11_tableOf_15 (lv_at hl 0 rfl) ?_
        refine lv_aload_n hx hb dX11_tableOf_17 rfl (lv_at hl 3 rfl) ?_
        refine gf_11_13 hx hb hts hin11 hown hK hT k0 hfl35 dX11_tableOf_18 (fun a8 ka8 fva8 => ?_)
        refine lv_iload_n hx hb dX11_tableOf_21 rfl (lv_at hl 4 rfl) ?_
        refine tw_ia (K := 50) (n := 5) (P := fun x => x = G.1 (100 + p1.toInt.toNat) ∧ (0 ≤ x.toInt ∧ x.toInt ≤ 12) ∧ ((G.1 3).toInt = 0 → x.toInt = 0)) hx hb hK hT ka8 (by decide) rfl rfl (by omega) rfl dX11_tableOf_22 (fun x9 kx9 fvx9 => ?_)
        have kx9 : x9 = G.1 (100 + p1.toInt.toNat) ∧ (0 ≤ x9.toInt ∧ x9.toInt ≤ 12) ∧ ((G.1 3).toInt = 0 → x9.toInt = 0) := kx9
        have gx9 := congrArg Int32.toInt kx9.1
        have rx9 := kx9.2
        refine tb_icmp_ge (tgt := 124) hx hb dX11_tableOf_23 (by decide) (fun c10 => ?_) (fun c10 => ?_)
        · skip
          refine lv_lload hx hb dX11_tableOf_124 (lv_at hl 2 rfl) ?_
          exact hret H locs ls 126 y7 G dX11_tableOf_126 ⟨rfl, trivial⟩ hT hS
        · skip
          refine lv_iload_n hx hb dX11_tableOf_26 rfl (lv_at hl 4 rfl) ?_
          refine lv_iload hx hb dX11_tableOf_27 (lv_at hl 0 rfl) ?_
          refine tw_Si (As := [.int p1, .int x5]) (rest := []) ⟨hx, hb, hml, hown, hts⟩ (c_X11_spot l D cy κ G p1 (by omega) x5 (by omega)) (va_cwS 2 hts gX11_tableOf_X11_spot rfl rfl rfl (by decide +kernel) ⟨Nat.le_of_ble_eq_true rfl, Nat.le_of_ble_eq_true rfl⟩) hK hT hS rfl hl.1 rfl (Nat.le_of_ble_eq_true rfl) dX11_tableOf_29 ⟨Nat.zero_le _, Nat.zero_le _⟩ (fun x11 u12 H locs hpu12 hT hS => ?_)
          obtain ⟨huu12, qu12⟩ := hpu12
          rw [huu12] at hT
          refine lv_istore (lv' := [(9, .int x11), (8, .int x5), (6, .long y6), (4, .long y7), (0, .ref p0), (1, .int p1), (2, .int p2), (3, .int p3)]) hx hb dX11_tableOf_32 hl (by decide) rfl (fun ls hl => ?_)
          refine lv_lload hx hb dX11_tableOf_34 (lv_at hl 2 rfl) ?_
          refine lv_iconst (v := (2 : Int32)) hx hb dX11_tableOf_36 (by decide) ?_
          refine lv_aload_n hx hb dX11_tableOf_37 rfl (lv_at hl 4 rfl) ?_
          refine gf_11_16 hx hb hts hin11 hown hK hT k0 hfl44 dX11_tableOf_38 (fun a13 ka13 fva13 => ?_)
          refine lv_iload hx hb dX11_tableOf_41 (lv_at hl 0 rfl) ?_
          refine tw_ia (K := 1060) (n := 60) (P := fun _ => True) hx hb hK hT ka13 (by decide) rfl rfl (by omega) rfl dX11_tableOf_43 (fun x14 _ fvx14 => ?_)
          refine lv_imul hx hb dX11_tableOf_44 ?_
          refine lv_topi (fun x15 ex15 => ?_)
          have tx15 : x15.toInt = ((2 : Int32) * x14).toInt := by rw [ex15]
          refine lv_i2l hx hb dX11_tableOf_45 rfl ?_
          refine lv_topl (fun y16 ey16 => ?_)
          have ty16 : y16.toInt = x15.toInt := by rw [ey16]; exact Int32.toInt_toInt64 x15
          refine lv_ladd hx hb dX11_tableOf_46 ?_
          refine lv_topl (fun y17 ey17 => ?_)
          refine lv_lstore (lv' := [(10, .long y17), (9, .int x11), (8, .int x5), (6, .long y6), (4, .long y7), (0, .ref p0), (1, .int p1), (2, .int p2), (3, .int p3)]) hx hb dX11_tableOf_47 hl (by decide) rfl (fun ls hl => ?_)
          refine lv_lload hx hb dX11_tableOf_49 (lv_at hl 4 rfl) ?_
          refine lv_aload_n hx hb dX11_tableOf_51 rfl (lv_at hl 5 rfl) ?_
          refine lv_iload hx hb dX11_tableOf_52 (lv_at hl 1 rfl) ?_
          refine lv_iload_n hx hb dX11_tableOf_54 rfl (lv_at hl 8 rfl) ?_
          refine tw_Vi (q := (RX11, TX11, 31)) (As := [.int x11, .int p3]) (rest := [.long y7]) ⟨hx, hb, hml, hown, hts⟩ (c_X11_turned l D cy κ G p0 k0 x11 (by omega) p3) (cwV 2 hts gX11_tableOf_X11_turned rfl rfl rfl (by decide +kernel) ⟨Nat.le_of_ble_eq_true rfl, Nat.le_of_ble_eq_true rfl⟩) hK hT hS k0 (by decide) rfl rfl hl.1 rfl (Nat.le_of_ble_eq_true rfl) dX11_tableOf_55 ⟨Nat.zero_le _, Nat.zero_le _⟩ (fun x18 u19 H locs hpu19 hT hS => ?_)
          obtain ⟨huu19, qu19⟩ := hpu19
          rw [huu19] at hT
          refine lv_i2l hx hb dX11_tableOf_58 rfl ?_
          refine lv_topl (fun y20 ey20 => ?_)
          have ty20 : y20.toInt = x18.toInt := by rw [ey20]; exact Int32.toInt_toInt64 x18
          refine lv_iload_n hx hb dX11_tableOf_59 rfl (lv_at hl 7 rfl) ?_
          have J110 : ∀ (H : Heap) (locs : List Loc) (ls : Array Slot) (y21 : Int64), (TW D cy κ G H) → (va_S (AA κ) s.heap H locs) → (lv_has ls 12 [(10, .long y17), (9, .int x11), (8, .int x5), (6, .long y6), (4, .long y7), (0, .ref p0), (1, .int p1), (2, .int p2), (3, .int p3)]) → W p l e rmX11_tableOf s m args below meth c H locs 0 0 Q (F0 m 110 ls [.long y21, .long y20, .long y7]) := by
            intro H locs ls y21 hT hS hl 
            refine lv_lmul hx hb dX11_tableOf_110 ?_
            refine lv_topl (fun y22 ey22 => ?_)
            refine lv_ladd hx hb dX11_tableOf_111 ?_
            refine lv_topl (fun y23 ey23 => ?_)
            refine lv_lstore (lv' := [(4, .long y23), (10, .long y17), (9, .int x11), (8, .int x5), (6, .long y6), (0, .ref p0), (1, .int p1), (2, .int p2), (3, .int p3)]) hx hb dX11_tableOf_112 hl (by decide) rfl (fun ls hl => ?_)
            refine lv_lload hx hb dX11_tableOf_114 (lv_at hl 1 rfl) ?_
            refine lv_lstore (lv' := [(6, .long y17), (4, .long y23), (10, .long y17), (9, .int x11), (8, .int x5), (0, .ref p0), (1, .int p1), (2, .int p2), (3, .int p3)]) hx hb dX11_tableOf_116 hl (by decide) rfl (fun ls hl => ?_)
            obtain ⟨x24, ex24⟩ : ∃ z : Int32, z = x5 + (1 : Int32) := ⟨_, rfl⟩
            refine lv_iinc (v := x24) (lv' := [(8, .int x24), (6, .long y17), (4, .long y23), (10, .long y17), (9, .int x11), (0, .ref p0), (1, .int p1), (2, .int p2), (3, .int p3)]) hx hb dX11_tableOf_118 hl (k := 4) rfl (by rw [ex24]; rfl) (by decide) rfl (fun ls hl => ?_)
            have tx24 : x24.toInt = x5.toInt + 1 := by rw [ex24, ti_add (by have := i32b x5; have := i32b x11; have := i32b p1; have := i32b p2; have := i32b p3; omega), hc1]
            refine lv_goto (tgt := 15) hx hb dX11_tableOf_121 (by decide) ?_
            exact ih15 ((2147483647 - x24.toInt).toNat) (by have := i32b x24; have := i32b x11; have := i32b p1; have := i32b p2; have := i32b p3; omega) H locs ls x24 y17 y23 rfl hT hS (lv_sub hl [0, 1, 2, 5, 6, 7, 8] rfl) (by omega)
          refine tb_if_ne (tgt := 74) hx hb dX11_tableOf_60 (by decide) (fun c25 => ?_) (fun c25 => ?_)
          · skip
            refine lv_iload_n hx hb dX11_tableOf_74 rfl (lv_at hl 7 rfl) ?_
            refine lv_iconst (v := (1 : Int32)) hx hb dX11_tableOf_75 (by decide) ?_
            refine tb_icmp_ne (tgt := 93) hx hb dX11_tableOf_76 (by decide) (fun c26 => ?_) (fun c26 => ?_)
            · skip
              refine lv_lload hx hb dX11_tableOf_93 (lv_at hl 0 rfl) ?_
              refine lv_lload hx hb dX11_tableOf_95 (lv_at hl 0 rfl) ?_
              refine lv_lmul hx hb dX11_tableOf_97 ?_
              refine lv_topl (fun y27 ey27 => ?_)
              refine lv_lload hx hb dX11_tableOf_98 (lv_at hl 0 rfl) ?_
              refine lv_lmul hx hb dX11_tableOf_100 ?_
              refine lv_topl (fun y28 ey28 => ?_)
              refine lv_lload hx hb dX11_tableOf_101 (lv_at hl 3 rfl) ?_
              refine lv_lload hx hb dX11_tableOf_103 (lv_at hl 3 rfl) ?_
              refine lv_lmul hx hb dX11_tableOf_105 ?_
              refine lv_topl (fun y29 ey29 => ?_)
              refine lv_lload hx hb dX11_tableOf_106 (lv_at hl 3 rfl) ?_
              refine lv_lmul hx hb dX11_tableOf_108 ?_
              refine lv_topl (fun y30 ey30 => ?_)
              refine lv_lsub hx hb dX11_tableOf_109 ?_
              refine lv_topl (fun y31 ey31 => ?_)
              exact J110 H locs ls y31 hT hS (lv_sub hl [0, 1, 2, 3, 4, 5, 6, 7, 8] rfl) 
            · skip
              refine lv_lload hx hb dX11_tableOf_79 (lv_at hl 0 rfl) ?_
              refine lv_lload hx hb dX11_tableOf_81 (lv_at hl 0 rfl) ?_
              refine lv_lmul hx hb dX11_tableOf_83 ?_
              refine lv_topl (fun y32 ey32 => ?_)
              refine lv_lload hx hb dX11_tableOf_84 (lv_at hl 3 rfl) ?_
              refine lv_lload hx hb dX11_tableOf_86 (lv_at hl 3 rfl) ?_
              refine lv_lmul hx hb dX11_tableOf_88 ?_
              refine lv_topl (fun y33 ey33 => ?_)
              refine lv_lsub hx hb dX11_tableOf_89 ?_
              refine lv_topl (fun y34 ey34 => ?_)
              refine lv_goto (tgt := 110) hx hb dX11_tableOf_90 (by decide) ?_
              exact J110 H locs ls y34 hT hS (lv_sub hl [0, 1, 2, 3, 4, 5, 6, 7, 8] rfl) 
          · skip
            refine lv_aload_n hx hb dX11_tableOf_63 rfl (lv_at hl 5 rfl) ?_
            refine gf_11_16 hx hb hts hin11 hown hK hT k0 hfl44 dX11_tableOf_64 (fun a35 ka35 fva35 => ?_)
            refine lv_iload hx hb dX11_tableOf_67 (lv_at hl 1 rfl) ?_
            refine tw_ia (K := 1060) (n := 60) (P := fun _ => True) hx hb hK hT ka35 (by decide) rfl rfl (by omega) rfl dX11_tableOf_69 (fun x36 _ fvx36 => ?_)
            refine lv_i2l hx hb dX11_tableOf_70 rfl ?_
            refine lv_topl (fun y37 ey37 => ?_)
            have ty37 : y37.toInt = x36.toInt := by rw [ey37]; exact Int32.toInt_toInt64 x36
            refine lv_goto (tgt := 110) hx hb dX11_tableOf_71 (by decide) ?_
            exact J110 H locs ls y37 hT hS (lv_sub hl [0, 1, 2, 3, 4, 5, 6, 7, 8] rfl) 
    exact L15 _ H locs ls (0 : Int32) y4 (0 : Int64) rfl hT hS (lv_sub hl [0, 1, 2, 3, 4, 5, 6] rfl) (by omega)
  exact main s.heap [] hT va_S.rf

abbrev rmX11_table : Room := { frames := 3, cells := 0, slots := 0, locals := 80 }
set_option maxHeartbeats 4000000 in
set_option maxRecDepth 100000 in
theorem c_X11_table (l : Launch) (D : va_G) (cy : Nat → ClassId) (κ : Nat → Nat) (G : Gh) (p0 : Nat) (k0 : κ p0 = 12) (p1 : Int32) (p2 : Int32) (p3 : Int32) : Met l yX11_table wsX11_table rmX11_table (va_Pc [.ref p0, .int p1, .int p2, .int p3] (fun U => WW D cy κ G U)) (va_Ql (fun (r : Int64) (u : Gh) => u = G ∧ (True)) (fun u t => WW D cy κ u t) (AA κ)) 0 0 (AA κ) := by
  refine Met.twl (cc := cX11_table) (maxL := 4) (by decide) rfl (Nat.le_of_ble_eq_true rfl) ?_
  intro p e s m args below meth c Q hx hb hml hown hts hK hT hret ls hl
  have hl : lv_has ls 4 [(0, .ref p0), (1, .int p1), (2, .int p2), (3, .int p3)] := hl
  have hkl112 := hts (.constantLong RX11 112 (-9223372036854775808)) (by decide +kernel)
  have hlk112 : (-9223372036854775808 : Int64).toInt = -9223372036854775808 := rfl
  have hc0 : (0 : Int32).toInt = 0 := rfl
  have hc2 : (2 : Int32).toInt = 2 := rfl
  have hc5 : (5 : Int32).toInt = 5 := rfl
  have main : ∀ (H : Heap) (locs : List Loc), TW D cy κ G H → va_S (AA κ) s.heap H locs → W p l e rmX11_table s m args below meth c H locs 0 0 Q (F0 m 0 ls []) := by
    intro H locs hT hS
    refine lv_aload_n hx hb dX11_table_0 rfl (lv_at hl 0 rfl) ?_
    refine lv_iload_n hx hb dX11_table_1 rfl (lv_at hl 1 rfl) ?_
    refine tw_Vi (q := (RX11, TX11, 31)) (As := [.int p1]) (rest := []) ⟨hx, hb, hml, hown, hts⟩ (c_X11_isPlate l D cy κ G p0 k0 p1) (cwV 1 hts gX11_table_X11_isPlate rfl rfl rfl (by decide +kernel) ⟨Nat.le_of_ble_eq_true rfl, Nat.le_of_ble_eq_true rfl⟩) hK hT hS k0 (by decide) rfl rfl hl.1 rfl (Nat.le_of_ble_eq_true rfl) dX11_table_2 ⟨Nat.zero_le _, Nat.zero_le _⟩ (fun x1 u2 H locs hpu2 hT hS => ?_)
    obtain ⟨huu2, qu2⟩ := hpu2
    rw [huu2] at hT
    refine tb_if_eq (tgt := 36) hx hb dX11_table_5 (by decide) (fun c3 => ?_) (fun c3 => ?_)
    · skip
      refine lv_ldc2 hx hb hown hkl112 dX11_table_36 ?_
      exact hret H locs ls 39 (-9223372036854775808 : Int64) G dX11_table_39 ⟨rfl, trivial⟩ hT hS
    · skip
      refine lv_iload_n hx hb dX11_table_8 rfl (lv_at hl 2 rfl) ?_
      refine lv_iconst (v := (0 : Int32)) hx hb dX11_table_9 (by decide) ?_
      refine lv_iconst (v := (2 : Int32)) hx hb dX11_table_10 (by decide) ?_
      refine tw_Si (As := [.int p2, .int (0 : Int32), .int (2 : Int32)]) (rest := []) ⟨hx, hb, hml, hown, hts⟩ (c_X11_isIn l D cy κ G p2 (0 : Int32) (2 : Int32)) (va_cwS 3 hts gX11_table_X11_isIn rfl rfl rfl (by decide +kernel) ⟨Nat.le_of_ble_eq_true rfl, Nat.le_of_ble_eq_true rfl⟩) hK hT hS rfl hl.1 rfl (Nat.le_of_ble_eq_true rfl) dX11_table_11 ⟨Nat.zero_le _, Nat.zero_le _⟩ (fun x4 u5 H locs hpu5 hT hS => ?_)
      obtain ⟨huu5, qu5⟩ := hpu5
      rw [huu5] at hT
      refine tb_if_eq (tgt := 36) hx hb dX11_table_14 (by decide) (fun c6 => ?_) (fun c6 => ?_)
      · skip
        refine lv_ldc2 hx hb hown hkl112 dX11_table_36 ?_
        exact hret H locs ls 39 (-9223372036854775808 : Int64) G dX11_table_39 ⟨rfl, trivial⟩ hT hS
      · skip
        refine lv_iload_n hx hb dX11_table_17 rfl (lv_at hl 3 rfl) ?_
        refine lv_iconst (v := (0 : Int32)) hx hb dX11_table_18 (by decide) ?_
        refine lv_iconst (v := (5 : Int32)) hx hb dX11_table_19 (by decide) ?_
        refine tw_Si (As := [.int p3, .int (0 : Int32), .int (5 : Int32)]) (rest := []) ⟨hx, hb, hml, hown, hts⟩ (c_X11_isIn l D cy κ G p3 (0 : Int32) (5 : Int32)) (va_cwS 3 hts gX11_table_X11_isIn rfl rfl rfl (by decide +kernel) ⟨Nat.le_of_ble_eq_true rfl, Nat.le_of_ble_eq_true rfl⟩) hK hT hS rfl hl.1 rfl (Nat.le_of_ble_eq_true rfl) dX11_table_20 ⟨Nat.zero_le _, Nat.zero_le _⟩ (fun x7 u8 H locs hpu8 hT hS => ?_)
        obtain ⟨huu8, qu8⟩ := hpu8
        rw [huu8] at hT
        refine tb_if_eq (tgt := 36) hx hb dX11_table_23 (by decide) (fun c9 => ?_) (fun c9 => ?_)
        · skip
          refine lv_ldc2 hx hb hown hkl112 dX11_table_36 ?_
          exact hret H locs ls 39 (-9223372036854775808 : Int64) G dX11_table_39 ⟨rfl, trivial⟩ hT hS
        · skip
          refine lv_aload_n hx hb dX11_table_26 rfl (lv_at hl 0 rfl) ?_
          refine lv_iload_n hx hb dX11_table_27 rfl (lv_at hl 1 rfl) ?_
          refine lv_iload_n hx hb dX11_table_28 rfl (lv_at hl 2 rfl) ?_
          refine lv_iload_n hx hb dX11_table_29 rfl (lv_at hl 3 rfl) ?_
          refine tw_Vl (q := (RX11, TX11, 31)) (As := [.int p1, .int p2, .int p3]) (rest := []) ⟨hx, hb, hml, hown, hts⟩ (c_X11_tableOf l D cy κ G p0 k0 p1 (by omega) p2 p3) (cwV 3 hts gX11_table_X11_tableOf rfl rfl rfl (by decide +kernel) ⟨Nat.le_of_ble_eq_true rfl, Nat.le_of_ble_eq_true rfl⟩) hK hT hS k0 (by decide) rfl rfl hl.1 rfl (Nat.le_of_ble_eq_true rfl) dX11_table_30 ⟨Nat.zero_le _, Nat.zero_le _⟩ (fun y10 u11 H locs hpu11 hT hS => ?_)
          obtain ⟨huu11, qu11⟩ := hpu11
          rw [huu11] at hT
          refine lv_goto (tgt := 39) hx hb dX11_table_33 (by decide) ?_
          exact hret H locs ls 39 y10 G dX11_table_39 ⟨rfl, trivial⟩ hT hS
  exact main s.heap [] hT va_S.rf

abbrev rmX11_tied : Room := { frames := 3, cells := 0, slots := 0, locals := 80 }
set_option maxHeartbeats 4000000 in
set_option maxRecDepth 100000 in
theorem c_X11_tied (l : Launch) (D : va_G) (cy : Nat → ClassId) (κ : Nat → Nat) (G : Gh) (p0 : Nat) (k0 : κ p0 = 12) (p1 : Int32) : Met l yX11_tied wsX11_tied rmX11_tied (va_Pc [.ref p0, .int p1] (fun U => WW D cy κ G U)) (va_Qi (fun (r : Int32) (u : Gh) => u = G ∧ (True)) (fun u t => WW D cy κ u t) (AA κ)) 0 0 (AA κ) := by
  refine Met.twi (cc := cX11_tied) (maxL := 4) (by decide) rfl (Nat.le_of_ble_eq_true rfl) ?_
  intro p e s m args below meth c Q hx hb hml hown hts hK hT hret ls hl
  have hl : lv_has ls 4 [(0, .ref p0), (1, .int p1)] := hl
  have hc0 : (0 : Int32).toInt = 0 := rfl
  have hc2 : (2 : Int32).toInt = 2 := rfl
  have hc6 : (6 : Int32).toInt = 6 := rfl
  have hc1 : (1 : Int32).toInt = 1 := rfl
  have hlc0 : (0 : Int64).toInt = 0 := rfl
  have hc16 : (16 : Int32).toInt = 16 := rfl
  have hc4 : (4 : Int32).toInt = 4 := rfl
  have hcm1 : (-1 : Int32).toInt = -1 := rfl
  have main : ∀ (H : Heap) (locs : List Loc), TW D cy κ G H → va_S (AA κ) s.heap H locs → W p l e rmX11_tied s m args below meth c H locs 0 0 Q (F0 m 0 ls []) := by
    intro H locs hT hS
    refine lv_aload_n hx hb dX11_tied_0 rfl (lv_at hl 0 rfl) ?_
    refine lv_iload_n hx hb dX11_tied_1 rfl (lv_at hl 1 rfl) ?_
    refine tw_Vi (q := (RX11, TX11, 31)) (As := [.int p1]) (rest := []) ⟨hx, hb, hml, hown, hts⟩ (c_X11_isPlate l D cy κ G p0 k0 p1) (cwV 1 hts gX11_tied_X11_isPlate rfl rfl rfl (by decide +kernel) ⟨Nat.le_of_ble_eq_true rfl, Nat.le_of_ble_eq_true rfl⟩) hK hT hS k0 (by decide) rfl rfl hl.1 rfl (Nat.le_of_ble_eq_true rfl) dX11_tied_2 ⟨Nat.zero_le _, Nat.zero_le _⟩ (fun x1 u2 H locs hpu2 hT hS => ?_)
    obtain ⟨huu2, qu2⟩ := hpu2
    rw [huu2] at hT
    refine tb_if_ne (tgt := 10) hx hb dX11_tied_5 (by decide) (fun c3 => ?_) (fun c3 => ?_)
    · skip
      refine lv_iconst (v := (0 : Int32)) hx hb dX11_tied_10 (by decide) ?_
      refine lv_istore_n (lv' := [(2, .int (0 : Int32)), (0, .ref p0), (1, .int p1)]) hx hb dX11_tied_11 rfl hl (by decide) rfl (fun ls hl => ?_)
      refine lv_iconst (v := (0 : Int32)) hx hb dX11_tied_12 (by decide) ?_
      refine lv_istore_n (lv' := [(3, .int (0 : Int32)), (2, .int (0 : Int32)), (0, .ref p0), (1, .int p1)]) hx hb dX11_tied_13 rfl hl (by decide) rfl (fun ls hl => ?_)
      have L14 : ∀ (nn : Nat) (H : Heap) (locs : List Loc) (ls : Array Slot) (x4 : Int32) (x5 : Int32), (nn = (2147483647 - x4.toInt).toNat) → (TW D cy κ G H) → (va_S (AA κ) s.heap H locs) → (lv_has ls 4 [(3, .int x4), (2, .int x5), (0, .ref p0), (1, .int p1)]) → (0 ≤ x4.toInt ∧ x4.toInt ≤ 2) → W p l e rmX11_tied s m args below meth c H locs 0 0 Q (F0 m 14 ls []) := by
        intro nn
        induction nn using Nat.strongRecOn with
        | _ nn ih14 =>
          intro H locs ls x4 x5 hnn hT hS hl fL14_0
          refine lv_iload_n hx hb dX11_tied_14 rfl (lv_at hl 0 rfl) ?_
          refine lv_iconst (v := (2 : Int32)) hx hb dX11_tied_15 (by decide) ?_
          refine tb_icmp_ge (tgt := 73) hx hb dX11_tied_16 (by decide) (fun c6 => ?_) (fun c6 => ?_)
          · skip
            refine lv_iconst (v := (0 : Int32)) hx hb dX11_tied_73 (by decide) ?_
            refine lv_istore_n (lv' := [(3, .int (0 : Int32)), (2, .int x5), (0, .ref p0), (1, .int p1)]) hx hb dX11_tied_74 rfl hl (by decide) rfl (fun ls hl => ?_)
            have L75 : ∀ (nn : Nat) (H : Heap) (locs : List Loc) (ls : Array Slot) (x7 : Int32) (x8 : Int32), (nn = (2147483647 - x7.toInt).toNat) → (TW D cy κ G H) → (va_S (AA κ) s.heap H locs) → (lv_has ls 4 [(3, .int x7), (2, .int x8), (0, .ref p0), (1, .int p1)]) → (0 ≤ x7.toInt ∧ x7.toInt ≤ 6) → W p l e rmX11_tied s m args below meth c H locs 0 0 Q (F0 m 75 ls []) := by
              intro nn
              induction nn using Nat.strongRecOn with
              | _ nn ih75 =>
                intro H locs ls x7 x8 hnn hT hS hl fL75_0
                refine lv_iload_n hx hb dX11_tied_75 rfl (lv_at hl 0 rfl) ?_
                refine lv_bipush (v := (6 : Int32)) hx hb dX11_tied_76 (by decide) ?_
                refine tb_icmp_ge (tgt := 108) hx hb dX11_tied_78 (by decide) (fun c9 => ?_) (fun c9 => ?_)
                · skip
                  refine lv_iload_n hx hb dX11_tied_108 rfl (lv_at hl 1 rfl) ?_
                  exact hret H locs ls 109 x8 G dX11_tied_109 ⟨rfl, trivial⟩ hT hS
                · skip
                  refine lv_iload_n hx hb dX11_tied_81 rfl (lv_at hl 1 rfl) ?_
                  refine lv_aload_n hx hb dX11_tied_82 rfl (lv_at hl 2 rfl) ?_
                  refine lv_iload_n hx hb dX11_tied_83 rfl (lv_at hl 3 rfl) ?_
                  refine lv_iconst (v := (1 : Int32)) hx hb dX11_tied_84 (by decide) ?_
                  refine lv_iload_n hx hb dX11_tied_85 rfl (lv_at hl 0 rfl) ?_
                  refine tw_Vl (q := (RX11, TX11, 31)) (As := [.int p1, .int (1 : Int32), .int x7]) (rest := [.int x8]) ⟨hx, hb, hml, hown, hts⟩ (c_X11_tableOf l D cy κ G p0 k0 p1 (by omega) (1 : Int32) x7) (cwV 3 hts gX11_tied_X11_tableOf rfl rfl rfl (by decide +kernel) ⟨Nat.le_of_ble_eq_true rfl, Nat.le_of_ble_eq_true rfl⟩) hK hT hS k0 (by decide) rfl rfl hl.1 rfl (Nat.le_of_ble_eq_true rfl) dX11_tied_86 ⟨Nat.zero_le _, Nat.zero_le _⟩ (fun y10 u11 H locs hpu11 hT hS => ?_)
                  obtain ⟨huu11, qu11⟩ := hpu11
                  rw [huu11] at hT
                  refine lv_lconst (v := 0) hx hb dX11_tied_89 (by decide) ?_
                  refine tb_lcmp2 hx hb dX11_tied_90 (fun x12 tx12 ux12 => ?_)
                  have J100 : ∀ (H : Heap) (locs : List Loc) (ls : Array Slot) (x13 : Int32), (TW D cy κ G H) → (va_S (AA κ) s.heap H locs) → (lv_has ls 4 [(3, .int x7), (2, .int x8), (0, .ref p0), (1, .int p1)]) → (0 ≤ x13.toInt ∧ x13.toInt ≤ 16) → W p l e rmX11_tied s m args below meth c H locs 0 0 Q (F0 m 100 ls [.int x13, .int x8]) := by
                    intro H locs ls x13 hT hS hl fJ100_0
                    refine lv_ior hx hb dX11_tied_100 ?_
                    refine lv_topi (fun x14 ex14 => ?_)
                    refine lv_istore_n (lv' := [(2, .int x14), (3, .int x7), (0, .ref p0), (1, .int p1)]) hx hb dX11_tied_101 rfl hl (by decide) rfl (fun ls hl => ?_)
                    obtain ⟨x15, ex15⟩ : ∃ z : Int32, z = x7 + (1 : Int32) := ⟨_, rfl⟩
                    refine lv_iinc (v := x15) (lv' := [(3, .int x15), (2, .int x14), (0, .ref p0), (1, .int p1)]) hx hb dX11_tied_102 hl (k := 1) rfl (by rw [ex15]; rfl) (by decide) rfl (fun ls hl => ?_)
                    have tx15 : x15.toInt = x7.toInt + 1 := by rw [ex15, ti_add (by have := i32b x7; have := i32b x14; have := i32b p1; omega), hc1]
                    refine lv_goto (tgt := 75) hx hb dX11_tied_105 (by decide) ?_
                    exact ih75 ((2147483647 - x15.toInt).toNat) (by have := i32b x15; have := i32b x14; have := i32b p1; omega) H locs ls x15 x14 rfl hT hS (lv_sub hl [0, 1, 2, 3] rfl) (by omega)
                  refine tb_if_eq (tgt := 99) hx hb dX11_tied_91 (by decide) (fun c16 => ?_) (fun c16 => ?_)
                  · skip
                    refine lv_iconst (v := (0 : Int32)) hx hb dX11_tied_99 (by decide) ?_
                    exact J100 H locs ls (0 : Int32) hT hS (lv_sub hl [0, 1, 2, 3] rfl) (by omega)
                  · skip
                    refine lv_bipush (v := (16 : Int32)) hx hb dX11_tied_94 (by decide) ?_
                    refine lv_goto (tgt := 100) hx hb dX11_tied_96 (by decide) ?_
                    exact J100 H locs ls (16 : Int32) hT hS (lv_sub hl [0, 1, 2, 3] rfl) (by omega)
            exact L75 _ H locs ls (0 : Int32) x5 rfl hT hS (lv_sub hl [0, 1, 2, 3] rfl) (by omega)
          · skip
            refine lv_iload_n hx hb dX11_tied_19 rfl (lv_at hl 1 rfl) ?_
            refine lv_aload_n hx hb dX11_tied_20 rfl (lv_at hl 2 rfl) ?_
            refine lv_iload_n hx hb dX11_tied_21 rfl (lv_at hl 3 rfl) ?_
            refine lv_iconst (v := (0 : Int32)) hx hb dX11_tied_22 (by decide) ?_
            refine lv_iconst (v := (4 : Int32)) hx hb dX11_tied_23 (by decide) ?_
            refine lv_iload_n hx hb dX11_tied_24 rfl (lv_at hl 0 rfl) ?_
            refine lv_iadd hx hb dX11_tied_25 ?_
            refine lv_topi (fun x17 ex17 => ?_)
            have tx17 : x17.toInt = (4 : Int32).toInt + x4.toInt := by rw [ex17]; exact ti_add (by have := i32b (4 : Int32); have := i32b x4; omega)
            refine tw_Vl (q := (RX11, TX11, 31)) (As := [.int p1, .int (0 : Int32), .int x17]) (rest := [.int x5]) ⟨hx, hb, hml, hown, hts⟩ (c_X11_tableOf l D cy κ G p0 k0 p1 (by omega) (0 : Int32) x17) (cwV 3 hts gX11_tied_X11_tableOf rfl rfl rfl (by decide +kernel) ⟨Nat.le_of_ble_eq_true rfl, Nat.le_of_ble_eq_true rfl⟩) hK hT hS k0 (by decide) rfl rfl hl.1 rfl (Nat.le_of_ble_eq_true rfl) dX11_tied_26 ⟨Nat.zero_le _, Nat.zero_le _⟩ (fun y18 u19 H locs hpu19 hT hS => ?_)
            obtain ⟨huu19, qu19⟩ := hpu19
            rw [huu19] at hT
            refine lv_lconst (v := 0) hx hb dX11_tied_29 (by decide) ?_
            refine tb_lcmp2 hx hb dX11_tied_30 (fun x20 tx20 ux20 => ?_)
            have J41 : ∀ (H : Heap) (locs : List Loc) (ls : Array Slot) (x21 : Int32), (TW D cy κ G H) → (va_S (AA κ) s.heap H locs) → (lv_has ls 4 [(3, .int x4), (2, .int x5), (0, .ref p0), (1, .int p1)]) → W p l e rmX11_tied s m args below meth c H locs 0 0 Q (F0 m 41 ls [.int x21, .int x5]) := by
              intro H locs ls x21 hT hS hl 
              refine lv_ior hx hb dX11_tied_41 ?_
              refine lv_topi (fun x22 ex22 => ?_)
              refine lv_istore_n (lv' := [(2, .int x22), (3, .int x4), (0, .ref p0), (1, .int p1)]) hx hb dX11_tied_42 rfl hl (by decide) rfl (fun ls hl => ?_)
              refine lv_iload_n hx hb dX11_tied_43 rfl (lv_at hl 0 rfl) ?_
              refine lv_aload_n hx hb dX11_tied_44 rfl (lv_at hl 2 rfl) ?_
              refine lv_iload_n hx hb dX11_tied_45 rfl (lv_at hl 3 rfl) ?_
              refine lv_iconst (v := (2 : Int32)) hx hb dX11_tied_46 (by decide) ?_
              refine lv_iconst (v := (4 : Int32)) hx hb dX11_tied_47 (by decide) ?_
              refine lv_iload_n hx hb dX11_tied_48 rfl (lv_at hl 1 rfl) ?_
              refine lv_iadd hx hb dX11_tied_49 ?_
              refine lv_topi (fun x23 ex23 => ?_)
              have tx23 : x23.toInt = (4 : Int32).toInt + x4.toInt := by rw [ex23]; exact ti_add (by have := i32b (4 : Int32); have := i32b x4; omega)
              refine tw_Vl (q := (RX11, TX11, 31)) (As := [.int p1, .int (2 : Int32), .int x23]) (rest := [.int x22]) ⟨hx, hb, hml, hown, hts⟩ (c_X11_tableOf l D cy κ G p0 k0 p1 (by omega) (2 : Int32) x23) (cwV 3 hts gX11_tied_X11_tableOf rfl rfl rfl (by decide +kernel) ⟨Nat.le_of_ble_eq_true rfl, Nat.le_of_ble_eq_true rfl⟩) hK hT hS k0 (by decide) rfl rfl hl.1 rfl (Nat.le_of_ble_eq_true rfl) dX11_tied_50 ⟨Nat.zero_le _, Nat.zero_le _⟩ (fun y24 u25 H locs hpu25 hT hS => ?_)
              obtain ⟨huu25, qu25⟩ := hpu25
              rw [huu25] at hT
              refine lv_lconst (v := 0) hx hb dX11_tied_53 (by decide) ?_
              refine tb_lcmp2 hx hb dX11_tied_54 (fun x26 tx26 ux26 => ?_)
              have J65 : ∀ (H : Heap) (locs : List Loc) (ls : Array Slot) (x27 : Int32), (TW D cy κ G H) → (va_S (AA κ) s.heap H locs) → (lv_has ls 4 [(2, .int x22), (3, .int x4), (0, .ref p0), (1, .int p1)]) → W p l e rmX11_tied s m args below meth c H locs 0 0 Q (F0 m 65 ls [.int x27, .int x22]) := by
                intro H locs ls x27 hT hS hl 
                refine lv_ior hx hb dX11_tied_65 ?_
                refine lv_topi (fun x28 ex28 => ?_)
                refine lv_istore_n (lv' := [(2, .int x28), (3, .int x4), (0, .ref p0), (1, .int p1)]) hx hb dX11_tied_66 rfl hl (by decide) rfl (fun ls hl => ?_)
                obtain ⟨x29, ex29⟩ : ∃ z : Int32, z = x4 + (1 : Int32) := ⟨_, rfl⟩
                refine lv_iinc (v := x29) (lv' := [(3, .int x29), (2, .int x28), (0, .ref p0), (1, .int p1)]) hx hb dX11_tied_67 hl (k := 1) rfl (by rw [ex29]; rfl) (by decide) rfl (fun ls hl => ?_)
                have tx29 : x29.toInt = x4.toInt + 1 := by rw [ex29, ti_add (by have := i32b x4; have := i32b x28; have := i32b p1; omega), hc1]
                refine lv_goto (tgt := 14) hx hb dX11_tied_70 (by decide) ?_
                exact ih14 ((2147483647 - x29.toInt).toNat) (by have := i32b x29; have := i32b x28; have := i32b p1; omega) H locs ls x29 x28 rfl hT hS (lv_sub hl [0, 1, 2, 3] rfl) (by omega)
              refine tb_if_eq (tgt := 64) hx hb dX11_tied_55 (by decide) (fun c30 => ?_) (fun c30 => ?_)
              · skip
                refine lv_iconst (v := (0 : Int32)) hx hb dX11_tied_64 (by decide) ?_
                exact J65 H locs ls (0 : Int32) hT hS (lv_sub hl [0, 1, 2, 3] rfl) 
              · skip
                refine lv_iconst (v := (4 : Int32)) hx hb dX11_tied_58 (by decide) ?_
                refine lv_iload_n hx hb dX11_tied_59 rfl (lv_at hl 1 rfl) ?_
                refine lv_ishl hx hb dX11_tied_60 ?_
                refine lv_topi (fun x31 _ => ?_)
                refine lv_goto (tgt := 65) hx hb dX11_tied_61 (by decide) ?_
                exact J65 H locs ls x31 hT hS (lv_sub hl [0, 1, 2, 3] rfl) 
            refine tb_if_eq (tgt := 40) hx hb dX11_tied_31 (by decide) (fun c32 => ?_) (fun c32 => ?_)
            · skip
              refine lv_iconst (v := (0 : Int32)) hx hb dX11_tied_40 (by decide) ?_
              exact J41 H locs ls (0 : Int32) hT hS (lv_sub hl [0, 1, 2, 3] rfl) 
            · skip
              refine lv_iconst (v := (1 : Int32)) hx hb dX11_tied_34 (by decide) ?_
              refine lv_iload_n hx hb dX11_tied_35 rfl (lv_at hl 0 rfl) ?_
              refine lv_ishl hx hb dX11_tied_36 ?_
              refine lv_topi (fun x33 _ => ?_)
              refine lv_goto (tgt := 41) hx hb dX11_tied_37 (by decide) ?_
              exact J41 H locs ls x33 hT hS (lv_sub hl [0, 1, 2, 3] rfl) 
      exact L14 _ H locs ls (0 : Int32) (0 : Int32) rfl hT hS (lv_sub hl [0, 1, 2, 3] rfl) (by omega)
    · skip
      refine lv_iconst (v := (-1 : Int32)) hx hb dX11_tied_8 (by decide) ?_
      exact hret H locs ls 9 (-1 : Int32) G dX11_tied_9 ⟨rfl, trivial⟩ hT hS
  exact main s.heap [] hT va_S.rf

abbrev rmX11_isAlike : Room := { frames := 0, cells := 0, slots := 0, locals := 0 }
set_option maxHeartbeats 4000000 in
set_option maxRecDepth 100000 in
theorem c_X11_isAlike (l : Launch) (D : va_G) (cy : Nat → ClassId) (κ : Nat → Nat) (G : Gh) (p0 : Nat) (k0 : κ p0 = 12) (p1 : Int32) (q1 : 0 ≤ p1.toInt ∧ p1.toInt ≤ 59) (p2 : Int32) (q2 : 0 ≤ p2.toInt ∧ p2.toInt ≤ 59) : Met l yX11_isAlike wsX11_isAlike rmX11_isAlike (va_Pc [.ref p0, .int p1, .int p2] (fun U => WW D cy κ G U)) (va_Qi (fun (r : Int32) (u : Gh) => u = G ∧ (0 ≤ r.toInt ∧ r.toInt ≤ 1)) (fun u t => WW D cy κ u t) (AA κ)) 0 0 (AA κ) := by
  refine Met.twz (cc := cX11_isAlike) (maxL := 3) (by decide) rfl (Nat.le_of_ble_eq_true rfl) ?_
  intro p e s m args below meth c Q hx hb hml hown hts hK hT hret ls hl
  have hl : lv_has ls 3 [(0, .ref p0), (1, .int p1), (2, .int p2)] := hl
  have hfl38 := hts (.fieldLink RX11 38 "PlyPlatesModel" "stuff" "[I") (by decide +kernel)
  have hin11 : ∀ w ∈ u_ws RX11 TX11 31, w ∈ wsX11_isAlike := by decide +kernel
  have hc0 : (0 : Int32).toInt = 0 := rfl
  have hfl41 := hts (.fieldLink RX11 41 "PlyPlatesModel" "way" "[I") (by decide +kernel)
  have hfl44 := hts (.fieldLink RX11 44 "PlyPlatesModel" "thick" "[I") (by decide +kernel)
  have hfl47 := hts (.fieldLink RX11 47 "PlyPlatesModel" "broken" "[I") (by decide +kernel)
  have hc1 : (1 : Int32).toInt = 1 := rfl
  have main : ∀ (H : Heap) (locs : List Loc), TW D cy κ G H → va_S (AA κ) s.heap H locs → W p l e rmX11_isAlike s m args below meth c H locs 0 0 Q (F0 m 0 ls []) := by
    intro H locs hT hS
    refine lv_aload_n hx hb dX11_isAlike_0 rfl (lv_at hl 0 rfl) ?_
    refine gf_11_14 hx hb hts hin11 hown hK hT k0 hfl38 dX11_isAlike_1 (fun a1 ka1 fva1 => ?_)
    refine lv_iload_n hx hb dX11_isAlike_4 rfl (lv_at hl 1 rfl) ?_
    refine tw_ia (K := 51) (n := 60) (P := fun x => (0 ≤ x.toInt ∧ x.toInt ≤ 2) ∧ (x.toInt = 0 ∨ x.toInt < (G.1 3).toInt)) hx hb hK hT ka1 (by decide) rfl rfl (by omega) rfl dX11_isAlike_5 (fun x2 kx2 fvx2 => ?_)
    have kx2 : (0 ≤ x2.toInt ∧ x2.toInt ≤ 2) ∧ (x2.toInt = 0 ∨ x2.toInt < (G.1 3).toInt) := kx2
    refine lv_aload_n hx hb dX11_isAlike_6 rfl (lv_at hl 0 rfl) ?_
    refine gf_11_14 hx hb hts hin11 hown hK hT k0 hfl38 dX11_isAlike_7 (fun a3 ka3 fva3 => ?_)
    obtain rfl : a1 = a3 := eRef (FV.eq fva1 fva3)
    refine lv_iload_n hx hb dX11_isAlike_10 rfl (lv_at hl 2 rfl) ?_
    refine tw_ia (K := 51) (n := 60) (P := fun x => (0 ≤ x.toInt ∧ x.toInt ≤ 2) ∧ (x.toInt = 0 ∨ x.toInt < (G.1 3).toInt)) hx hb hK hT ka1 (by decide) rfl rfl (by omega) rfl dX11_isAlike_11 (fun x4 kx4 fvx4 => ?_)
    have kx4 : (0 ≤ x4.toInt ∧ x4.toInt ≤ 2) ∧ (x4.toInt = 0 ∨ x4.toInt < (G.1 3).toInt) := kx4
    refine tb_icmp_ne (tgt := 64) hx hb dX11_isAlike_12 (by decide) (fun c5 => ?_) (fun c5 => ?_)
    · skip
      refine lv_iconst (v := (0 : Int32)) hx hb dX11_isAlike_64 (by decide) ?_
      exact hret H locs ls 65 (0 : Int32) G dX11_isAlike_65 (by omega) ⟨rfl, by omega⟩ hT hS
    · skip
      refine lv_aload_n hx hb dX11_isAlike_15 rfl (lv_at hl 0 rfl) ?_
      refine gf_11_15 hx hb hts hin11 hown hK hT k0 hfl41 dX11_isAlike_16 (fun a6 ka6 fva6 => ?_)
      refine lv_iload_n hx hb dX11_isAlike_19 rfl (lv_at hl 1 rfl) ?_
      refine tw_ia (K := 1060) (n := 60) (P := fun _ => True) hx hb hK hT ka6 (by decide) rfl rfl (by omega) rfl dX11_isAlike_20 (fun x7 _ fvx7 => ?_)
      refine lv_aload_n hx hb dX11_isAlike_21 rfl (lv_at hl 0 rfl) ?_
      refine gf_11_15 hx hb hts hin11 hown hK hT k0 hfl41 dX11_isAlike_22 (fun a8 ka8 fva8 => ?_)
      obtain rfl : a6 = a8 := eRef (FV.eq fva6 fva8)
      refine lv_iload_n hx hb dX11_isAlike_25 rfl (lv_at hl 2 rfl) ?_
      refine tw_ia (K := 1060) (n := 60) (P := fun _ => True) hx hb hK hT ka6 (by decide) rfl rfl (by omega) rfl dX11_isAlike_26 (fun x9 _ fvx9 => ?_)
      refine tb_icmp_ne (tgt := 64) hx hb dX11_isAlike_27 (by decide) (fun c10 => ?_) (fun c10 => ?_)
      · skip
        refine lv_iconst (v := (0 : Int32)) hx hb dX11_isAlike_64 (by decide) ?_
        exact hret H locs ls 65 (0 : Int32) G dX11_isAlike_65 (by omega) ⟨rfl, by omega⟩ hT hS
      · skip
        refine lv_aload_n hx hb dX11_isAlike_30 rfl (lv_at hl 0 rfl) ?_
        refine gf_11_16 hx hb hts hin11 hown hK hT k0 hfl44 dX11_isAlike_31 (fun a11 ka11 fva11 => ?_)
        refine lv_iload_n hx hb dX11_isAlike_34 rfl (lv_at hl 1 rfl) ?_
        refine tw_ia (K := 1060) (n := 60) (P := fun _ => True) hx hb hK hT ka11 (by decide) rfl rfl (by omega) rfl dX11_isAlike_35 (fun x12 _ fvx12 => ?_)
        refine lv_aload_n hx hb dX11_isAlike_36 rfl (lv_at hl 0 rfl) ?_
        refine gf_11_16 hx hb hts hin11 hown hK hT k0 hfl44 dX11_isAlike_37 (fun a13 ka13 fva13 => ?_)
        obtain rfl : a11 = a13 := eRef (FV.eq fva11 fva13)
        refine lv_iload_n hx hb dX11_isAlike_40 rfl (lv_at hl 2 rfl) ?_
        refine tw_ia (K := 1060) (n := 60) (P := fun _ => True) hx hb hK hT ka11 (by decide) rfl rfl (by omega) rfl dX11_isAlike_41 (fun x14 _ fvx14 => ?_)
        refine tb_icmp_ne (tgt := 64) hx hb dX11_isAlike_42 (by decide) (fun c15 => ?_) (fun c15 => ?_)
        · skip
          refine lv_iconst (v := (0 : Int32)) hx hb dX11_isAlike_64 (by decide) ?_
          exact hret H locs ls 65 (0 : Int32) G dX11_isAlike_65 (by omega) ⟨rfl, by omega⟩ hT hS
        · skip
          refine lv_aload_n hx hb dX11_isAlike_45 rfl (lv_at hl 0 rfl) ?_
          refine gf_11_17 hx hb hts hin11 hown hK hT k0 hfl47 dX11_isAlike_46 (fun a16 ka16 fva16 => ?_)
          refine lv_iload_n hx hb dX11_isAlike_49 rfl (lv_at hl 1 rfl) ?_
          refine tw_ia (K := 52) (n := 60) (P := fun x => x = G.1 (200 + p1.toInt.toNat) ∧ (0 ≤ x.toInt ∧ x.toInt ≤ 2)) hx hb hK hT ka16 (by decide) rfl rfl (by omega) rfl dX11_isAlike_50 (fun x17 kx17 fvx17 => ?_)
          have kx17 : x17 = G.1 (200 + p1.toInt.toNat) ∧ (0 ≤ x17.toInt ∧ x17.toInt ≤ 2) := kx17
          have gx17 := congrArg Int32.toInt kx17.1
          have rx17 := kx17.2
          refine lv_aload_n hx hb dX11_isAlike_51 rfl (lv_at hl 0 rfl) ?_
          refine gf_11_17 hx hb hts hin11 hown hK hT k0 hfl47 dX11_isAlike_52 (fun a18 ka18 fva18 => ?_)
          obtain rfl : a16 = a18 := eRef (FV.eq fva16 fva18)
          refine lv_iload_n hx hb dX11_isAlike_55 rfl (lv_at hl 2 rfl) ?_
          refine tw_ia (K := 52) (n := 60) (P := fun x => x = G.1 (200 + p2.toInt.toNat) ∧ (0 ≤ x.toInt ∧ x.toInt ≤ 2)) hx hb hK hT ka16 (by decide) rfl rfl (by omega) rfl dX11_isAlike_56 (fun x19 kx19 fvx19 => ?_)
          have kx19 : x19 = G.1 (200 + p2.toInt.toNat) ∧ (0 ≤ x19.toInt ∧ x19.toInt ≤ 2) := kx19
          have gx19 := congrArg Int32.toInt kx19.1
          have rx19 := kx19.2
          refine tb_icmp_ne (tgt := 64) hx hb dX11_isAlike_57 (by decide) (fun c20 => ?_) (fun c20 => ?_)
          · skip
            refine lv_iconst (v := (0 : Int32)) hx hb dX11_isAlike_64 (by decide) ?_
            exact hret H locs ls 65 (0 : Int32) G dX11_isAlike_65 (by omega) ⟨rfl, by omega⟩ hT hS
          · skip
            refine lv_iconst (v := (1 : Int32)) hx hb dX11_isAlike_60 (by decide) ?_
            refine lv_goto (tgt := 65) hx hb dX11_isAlike_61 (by decide) ?_
            exact hret H locs ls 65 (1 : Int32) G dX11_isAlike_65 (by omega) ⟨rfl, by omega⟩ hT hS
  exact main s.heap [] hT va_S.rf

abbrev rmX11_isEven : Room := { frames := 1, cells := 0, slots := 0, locals := 22 }
set_option maxHeartbeats 4000000 in
set_option maxRecDepth 100000 in
theorem c_X11_isEven (l : Launch) (D : va_G) (cy : Nat → ClassId) (κ : Nat → Nat) (G : Gh) (p0 : Nat) (k0 : κ p0 = 12) (p1 : Int32) (q1 : 0 ≤ p1.toInt ∧ p1.toInt ≤ 4) : Met l yX11_isEven wsX11_isEven rmX11_isEven (va_Pc [.ref p0, .int p1] (fun U => WW D cy κ G U)) (va_Qi (fun (r : Int32) (u : Gh) => u = G ∧ (0 ≤ r.toInt ∧ r.toInt ≤ 1)) (fun u t => WW D cy κ u t) (AA κ)) 0 0 (AA κ) := by
  refine Met.twz (cc := cX11_isEven) (maxL := 4) (by decide) rfl (Nat.le_of_ble_eq_true rfl) ?_
  intro p e s m args below meth c Q hx hb hml hown hts hK hT hret ls hl
  have hl : lv_has ls 4 [(0, .ref p0), (1, .int p1)] := hl
  have hc1 : (1 : Int32).toInt = 1 := rfl
  have hc0 : (0 : Int32).toInt = 0 := rfl
  have hfl35 := hts (.fieldLink RX11 35 "PlyPlatesModel" "many" "[I") (by decide +kernel)
  have hin11 : ∀ w ∈ u_ws RX11 TX11 31, w ∈ wsX11_isEven := by decide +kernel
  have main : ∀ (H : Heap) (locs : List Loc), TW D cy κ G H → va_S (AA κ) s.heap H locs → W p l e rmX11_isEven s m args below meth c H locs 0 0 Q (F0 m 0 ls []) := by
    intro H locs hT hS
    refine lv_iconst (v := (1 : Int32)) hx hb dX11_isEven_0 (by decide) ?_
    refine lv_istore_n (lv' := [(2, .int (1 : Int32)), (0, .ref p0), (1, .int p1)]) hx hb dX11_isEven_1 rfl hl (by decide) rfl (fun ls hl => ?_)
    refine lv_iconst (v := (0 : Int32)) hx hb dX11_isEven_2 (by decide) ?_
    refine lv_istore_n (lv' := [(3, .int (0 : Int32)), (2, .int (1 : Int32)), (0, .ref p0), (1, .int p1)]) hx hb dX11_isEven_3 rfl hl (by decide) rfl (fun ls hl => ?_)
    have L4 : ∀ (nn : Nat) (H : Heap) (locs : List Loc) (ls : Array Slot) (x1 : Int32) (x2 : Int32), (nn = (2147483647 - x1.toInt).toNat) → (TW D cy κ G H) → (va_S (AA κ) s.heap H locs) → (lv_has ls 4 [(3, .int x1), (2, .int x2), (0, .ref p0), (1, .int p1)]) → (0 ≤ x1.toInt ∧ x1.toInt ≤ 12) → (0 ≤ x2.toInt ∧ x2.toInt ≤ 1) → W p l e rmX11_isEven s m args below meth c H locs 0 0 Q (F0 m 4 ls []) := by
      intro nn
      induction nn using Nat.strongRecOn with
      | _ nn ih4 =>
        intro H locs ls x1 x2 hnn hT hS hl fL4_0 fL4_1
        refine lv_iload_n hx hb dX11_isEven_4 rfl (lv_at hl 0 rfl) ?_
        refine lv_aload_n hx hb dX11_isEven_5 rfl (lv_at hl 2 rfl) ?_
        refine gf_11_13 hx hb hts hin11 hown hK hT k0 hfl35 dX11_isEven_6 (fun a3 ka3 fva3 => ?_)
        refine lv_iload_n hx hb dX11_isEven_9 rfl (lv_at hl 3 rfl) ?_
        refine tw_ia (K := 50) (n := 5) (P := fun x => x = G.1 (100 + p1.toInt.toNat) ∧ (0 ≤ x.toInt ∧ x.toInt ≤ 12) ∧ ((G.1 3).toInt = 0 → x.toInt = 0)) hx hb hK hT ka3 (by decide) rfl rfl (by omega) rfl dX11_isEven_10 (fun x4 kx4 fvx4 => ?_)
        have kx4 : x4 = G.1 (100 + p1.toInt.toNat) ∧ (0 ≤ x4.toInt ∧ x4.toInt ≤ 12) ∧ ((G.1 3).toInt = 0 → x4.toInt = 0) := kx4
        have gx4 := congrArg Int32.toInt kx4.1
        have rx4 := kx4.2
        refine tb_icmp_ge (tgt := 48) hx hb dX11_isEven_11 (by decide) (fun c5 => ?_) (fun c5 => ?_)
        · skip
          refine lv_iload_n hx hb dX11_isEven_48 rfl (lv_at hl 1 rfl) ?_
          exact hret H locs ls 49 x2 G dX11_isEven_49 (by omega) ⟨rfl, by omega⟩ hT hS
        · skip
          refine lv_iload_n hx hb dX11_isEven_14 rfl (lv_at hl 1 rfl) ?_
          refine tb_if_eq (tgt := 48) hx hb dX11_isEven_15 (by decide) (fun c6 => ?_) (fun c6 => ?_)
          · skip
            refine lv_iload_n hx hb dX11_isEven_48 rfl (lv_at hl 1 rfl) ?_
            exact hret H locs ls 49 x2 G dX11_isEven_49 (by omega) ⟨rfl, by omega⟩ hT hS
          · skip
            refine lv_aload_n hx hb dX11_isEven_18 rfl (lv_at hl 2 rfl) ?_
            refine lv_iload_n hx hb dX11_isEven_19 rfl (lv_at hl 3 rfl) ?_
            refine lv_iload_n hx hb dX11_isEven_20 rfl (lv_at hl 0 rfl) ?_
            refine tw_Si (As := [.int p1, .int x1]) (rest := [.ref p0]) ⟨hx, hb, hml, hown, hts⟩ (c_X11_spot l D cy κ G p1 (by omega) x1 (by omega)) (va_cwS 2 hts gX11_isEven_X11_spot rfl rfl rfl (by decide +kernel) ⟨Nat.le_of_ble_eq_true rfl, Nat.le_of_ble_eq_true rfl⟩) hK hT hS rfl hl.1 rfl (Nat.le_of_ble_eq_true rfl) dX11_isEven_21 ⟨Nat.zero_le _, Nat.zero_le _⟩ (fun x7 u8 H locs hpu8 hT hS => ?_)
            obtain ⟨huu8, qu8⟩ := hpu8
            rw [huu8] at hT
            refine lv_iload_n hx hb dX11_isEven_24 rfl (lv_at hl 3 rfl) ?_
            refine lv_aload_n hx hb dX11_isEven_25 rfl (lv_at hl 2 rfl) ?_
            refine gf_11_13 hx hb hts hin11 hown hK hT k0 hfl35 dX11_isEven_26 (fun a9 ka9 fva9 => ?_)
            refine lv_iload_n hx hb dX11_isEven_29 rfl (lv_at hl 3 rfl) ?_
            refine tw_ia (K := 50) (n := 5) (P := fun x => x = G.1 (100 + p1.toInt.toNat) ∧ (0 ≤ x.toInt ∧ x.toInt ≤ 12) ∧ ((G.1 3).toInt = 0 → x.toInt = 0)) hx hb hK hT ka9 (by decide) rfl rfl (by omega) rfl dX11_isEven_30 (fun x10 kx10 fvx10 => ?_)
            have kx10 : x10 = G.1 (100 + p1.toInt.toNat) ∧ (0 ≤ x10.toInt ∧ x10.toInt ≤ 12) ∧ ((G.1 3).toInt = 0 → x10.toInt = 0) := kx10
            have gx10 := congrArg Int32.toInt kx10.1
            have rx10 := kx10.2
            refine lv_iconst (v := (1 : Int32)) hx hb dX11_isEven_31 (by decide) ?_
            refine lv_isub hx hb dX11_isEven_32 ?_
            refine lv_topi (fun x11 ex11 => ?_)
            have tx11 : x11.toInt = x10.toInt - (1 : Int32).toInt := by rw [ex11]; exact ti_sub (by have := i32b x10; have := i32b (1 : Int32); omega)
            refine lv_iload_n hx hb dX11_isEven_33 rfl (lv_at hl 0 rfl) ?_
            refine lv_isub hx hb dX11_isEven_34 ?_
            refine lv_topi (fun x12 ex12 => ?_)
            have tx12 : x12.toInt = x11.toInt - x1.toInt := by rw [ex12]; exact ti_sub (by have := i32b x11; have := i32b x1; omega)
            refine tw_Si (As := [.int p1, .int x12]) (rest := [.int x7, .ref p0]) ⟨hx, hb, hml, hown, hts⟩ (c_X11_spot l D cy κ G p1 (by omega) x12 (by omega)) (va_cwS 2 hts gX11_isEven_X11_spot rfl rfl rfl (by decide +kernel) ⟨Nat.le_of_ble_eq_true rfl, Nat.le_of_ble_eq_true rfl⟩) hK hT hS rfl hl.1 rfl (Nat.le_of_ble_eq_true rfl) dX11_isEven_35 ⟨Nat.zero_le _, Nat.zero_le _⟩ (fun x13 u14 H locs hpu14 hT hS => ?_)
            obtain ⟨huu14, qu14⟩ := hpu14
            rw [huu14] at hT
            refine tw_Vi (q := (RX11, TX11, 31)) (As := [.int x7, .int x13]) (rest := []) ⟨hx, hb, hml, hown, hts⟩ (c_X11_isAlike l D cy κ G p0 k0 x7 (by omega) x13 (by omega)) (cwV 2 hts gX11_isEven_X11_isAlike rfl rfl rfl (by decide +kernel) ⟨Nat.le_of_ble_eq_true rfl, Nat.le_of_ble_eq_true rfl⟩) hK hT hS k0 (by decide) rfl rfl hl.1 rfl (Nat.le_of_ble_eq_true rfl) dX11_isEven_38 ⟨Nat.zero_le _, Nat.zero_le _⟩ (fun x15 u16 H locs hpu16 hT hS => ?_)
            obtain ⟨huu16, qu16⟩ := hpu16
            rw [huu16] at hT
            refine lv_istore_n (lv' := [(2, .int x15), (3, .int x1), (0, .ref p0), (1, .int p1)]) hx hb dX11_isEven_41 rfl hl (by decide) rfl (fun ls hl => ?_)
            obtain ⟨x17, ex17⟩ : ∃ z : Int32, z = x1 + (1 : Int32) := ⟨_, rfl⟩
            refine lv_iinc (v := x17) (lv' := [(3, .int x17), (2, .int x15), (0, .ref p0), (1, .int p1)]) hx hb dX11_isEven_42 hl (k := 1) rfl (by rw [ex17]; rfl) (by decide) rfl (fun ls hl => ?_)
            have tx17 : x17.toInt = x1.toInt + 1 := by rw [ex17, ti_add (by have := i32b x1; have := i32b x15; have := i32b p1; omega), hc1]
            refine lv_goto (tgt := 4) hx hb dX11_isEven_45 (by decide) ?_
            exact ih4 ((2147483647 - x17.toInt).toNat) (by have := i32b x17; have := i32b x15; have := i32b p1; omega) H locs ls x17 x15 rfl hT hS (lv_sub hl [0, 1, 2, 3] rfl) (by omega) (by omega)
    exact L4 _ H locs ls (0 : Int32) (1 : Int32) rfl hT hS (lv_sub hl [0, 1, 2, 3] rfl) (by omega) (by omega)
  exact main s.heap [] hT va_S.rf

abbrev rmX11_even : Room := { frames := 2, cells := 0, slots := 0, locals := 45 }
set_option maxHeartbeats 4000000 in
set_option maxRecDepth 100000 in
theorem c_X11_even (l : Launch) (D : va_G) (cy : Nat → ClassId) (κ : Nat → Nat) (G : Gh) (p0 : Nat) (k0 : κ p0 = 12) (p1 : Int32) : Met l yX11_even wsX11_even rmX11_even (va_Pc [.ref p0, .int p1] (fun U => WW D cy κ G U)) (va_Qi (fun (r : Int32) (u : Gh) => u = G ∧ (True)) (fun u t => WW D cy κ u t) (AA κ)) 0 0 (AA κ) := by
  refine Met.twi (cc := cX11_even) (maxL := 2) (by decide) rfl (Nat.le_of_ble_eq_true rfl) ?_
  intro p e s m args below meth c Q hx hb hml hown hts hK hT hret ls hl
  have hl : lv_has ls 2 [(0, .ref p0), (1, .int p1)] := hl
  have hcm1 : (-1 : Int32).toInt = -1 := rfl
  have hc0 : (0 : Int32).toInt = 0 := rfl
  have hc1 : (1 : Int32).toInt = 1 := rfl
  have main : ∀ (H : Heap) (locs : List Loc), TW D cy κ G H → va_S (AA κ) s.heap H locs → W p l e rmX11_even s m args below meth c H locs 0 0 Q (F0 m 0 ls []) := by
    intro H locs hT hS
    refine lv_aload_n hx hb dX11_even_0 rfl (lv_at hl 0 rfl) ?_
    refine lv_iload_n hx hb dX11_even_1 rfl (lv_at hl 1 rfl) ?_
    refine tw_Vi (q := (RX11, TX11, 31)) (As := [.int p1]) (rest := []) ⟨hx, hb, hml, hown, hts⟩ (c_X11_isPlate l D cy κ G p0 k0 p1) (cwV 1 hts gX11_even_X11_isPlate rfl rfl rfl (by decide +kernel) ⟨Nat.le_of_ble_eq_true rfl, Nat.le_of_ble_eq_true rfl⟩) hK hT hS k0 (by decide) rfl rfl hl.1 rfl (Nat.le_of_ble_eq_true rfl) dX11_even_2 ⟨Nat.zero_le _, Nat.zero_le _⟩ (fun x1 u2 H locs hpu2 hT hS => ?_)
    obtain ⟨huu2, qu2⟩ := hpu2
    rw [huu2] at hT
    refine tb_if_eq (tgt := 24) hx hb dX11_even_5 (by decide) (fun c3 => ?_) (fun c3 => ?_)
    · skip
      refine lv_iconst (v := (-1 : Int32)) hx hb dX11_even_24 (by decide) ?_
      exact hret H locs ls 25 (-1 : Int32) G dX11_even_25 ⟨rfl, trivial⟩ hT hS
    · skip
      refine lv_aload_n hx hb dX11_even_8 rfl (lv_at hl 0 rfl) ?_
      refine lv_iload_n hx hb dX11_even_9 rfl (lv_at hl 1 rfl) ?_
      refine tw_Vi (q := (RX11, TX11, 31)) (As := [.int p1]) (rest := []) ⟨hx, hb, hml, hown, hts⟩ (c_X11_isEven l D cy κ G p0 k0 p1 (by omega)) (cwV 1 hts gX11_even_X11_isEven rfl rfl rfl (by decide +kernel) ⟨Nat.le_of_ble_eq_true rfl, Nat.le_of_ble_eq_true rfl⟩) hK hT hS k0 (by decide) rfl rfl hl.1 rfl (Nat.le_of_ble_eq_true rfl) dX11_even_10 ⟨Nat.zero_le _, Nat.zero_le _⟩ (fun x4 u5 H locs hpu5 hT hS => ?_)
      obtain ⟨huu5, qu5⟩ := hpu5
      rw [huu5] at hT
      refine tb_if_eq (tgt := 20) hx hb dX11_even_13 (by decide) (fun c6 => ?_) (fun c6 => ?_)
      · skip
        refine lv_iconst (v := (0 : Int32)) hx hb dX11_even_20 (by decide) ?_
        refine lv_goto (tgt := 25) hx hb dX11_even_21 (by decide) ?_
        exact hret H locs ls 25 (0 : Int32) G dX11_even_25 ⟨rfl, trivial⟩ hT hS
      · skip
        refine lv_iconst (v := (1 : Int32)) hx hb dX11_even_16 (by decide) ?_
        refine lv_goto (tgt := 25) hx hb dX11_even_17 (by decide) ?_
        exact hret H locs ls 25 (1 : Int32) G dX11_even_25 ⟨rfl, trivial⟩ hT hS
  exact main s.heap [] hT va_S.rf

abbrev rmX11_solve : Room := { frames := 3, cells := 0, slots := 0, locals := 80 }
set_option maxHeartbeats 4000000 in
set_option maxRecDepth 100000 in
theorem c_X11_solve (l : Launch) (D : va_G) (cy : Nat → ClassId) (κ : Nat → Nat) (G : Gh) (p0 : Nat) (k0 : κ p0 = 12) (p1 : Int32) (q1 : 0 ≤ p1.toInt ∧ p1.toInt ≤ 4) (p2 : Int64) (p3 : Int64) (p4 : Int64) : Met l yX11_solve wsX11_solve rmX11_solve (va_Pc [.ref p0, .int p1, .long p2, .long p3, .long p4] (fun U => WW D cy κ G U)) (va_Qv (fun u : Gh => u = G ∧ (True)) (fun u t => WW D cy κ u t) (AA κ)) 0 0 (AA κ) := by
  refine Met.twv (cc := cX11_solve) (maxL := 32) (by decide) rfl (Nat.le_of_ble_eq_true rfl) ?_
  intro p e s m args below meth c Q hx hb hml hown hts hK hT hret ls hl
  have hl : lv_has ls 32 [(0, .ref p0), (1, .int p1), (2, .long p2), (4, .long p3), (6, .long p4)] := hl
  have hc0 : (0 : Int32).toInt = 0 := rfl
  have hc1 : (1 : Int32).toInt = 1 := rfl
  have hc2 : (2 : Int32).toInt = 2 := rfl
  have hc3 : (3 : Int32).toInt = 3 := rfl
  have hc4 : (4 : Int32).toInt = 4 := rfl
  have hc5 : (5 : Int32).toInt = 5 := rfl
  have hfl120 := hts (.fieldLink RX11 120 "PlyPlatesModel" "below" "J") (by decide +kernel)
  have hin11 : ∀ w ∈ u_ws RX11 TX11 31, w ∈ wsX11_solve := by decide +kernel
  have hfl124 := hts (.fieldLink RX11 124 "PlyPlatesModel" "ex" "J") (by decide +kernel)
  have hfl127 := hts (.fieldLink RX11 127 "PlyPlatesModel" "ey" "J") (by decide +kernel)
  have hfl130 := hts (.fieldLink RX11 130 "PlyPlatesModel" "es" "J") (by decide +kernel)
  have main : ∀ (H : Heap) (locs : List Loc), TW D cy κ G H → va_S (AA κ) s.heap H locs → W p l e rmX11_solve s m args below meth c H locs 0 0 Q (F0 m 0 ls []) := by
    intro H locs hT hS
    refine lv_aload_n hx hb dX11_solve_0 rfl (lv_at hl 0 rfl) ?_
    refine lv_iload_n hx hb dX11_solve_1 rfl (lv_at hl 1 rfl) ?_
    refine lv_iconst (v := (0 : Int32)) hx hb dX11_solve_2 (by decide) ?_
    refine lv_iconst (v := (0 : Int32)) hx hb dX11_solve_3 (by decide) ?_
    refine tw_Vl (q := (RX11, TX11, 31)) (As := [.int p1, .int (0 : Int32), .int (0 : Int32)]) (rest := []) ⟨hx, hb, hml, hown, hts⟩ (c_X11_tableOf l D cy κ G p0 k0 p1 (by omega) (0 : Int32) (0 : Int32)) (cwV 3 hts gX11_solve_X11_tableOf rfl rfl rfl (by decide +kernel) ⟨Nat.le_of_ble_eq_true rfl, Nat.le_of_ble_eq_true rfl⟩) hK hT hS k0 (by decide) rfl rfl hl.1 rfl (Nat.le_of_ble_eq_true rfl) dX11_solve_4 ⟨Nat.zero_le _, Nat.zero_le _⟩ (fun y1 u2 H locs hpu2 hT hS => ?_)
    obtain ⟨huu2, qu2⟩ := hpu2
    rw [huu2] at hT
    refine lv_lstore (lv' := [(8, .long y1), (0, .ref p0), (1, .int p1), (2, .long p2), (4, .long p3), (6, .long p4)]) hx hb dX11_solve_7 hl (by decide) rfl (fun ls hl => ?_)
    refine lv_aload_n hx hb dX11_solve_9 rfl (lv_at hl 1 rfl) ?_
    refine lv_iload_n hx hb dX11_solve_10 rfl (lv_at hl 2 rfl) ?_
    refine lv_iconst (v := (0 : Int32)) hx hb dX11_solve_11 (by decide) ?_
    refine lv_iconst (v := (1 : Int32)) hx hb dX11_solve_12 (by decide) ?_
    refine tw_Vl (q := (RX11, TX11, 31)) (As := [.int p1, .int (0 : Int32), .int (1 : Int32)]) (rest := []) ⟨hx, hb, hml, hown, hts⟩ (c_X11_tableOf l D cy κ G p0 k0 p1 (by omega) (0 : Int32) (1 : Int32)) (cwV 3 hts gX11_solve_X11_tableOf rfl rfl rfl (by decide +kernel) ⟨Nat.le_of_ble_eq_true rfl, Nat.le_of_ble_eq_true rfl⟩) hK hT hS k0 (by decide) rfl rfl hl.1 rfl (Nat.le_of_ble_eq_true rfl) dX11_solve_13 ⟨Nat.zero_le _, Nat.zero_le _⟩ (fun y3 u4 H locs hpu4 hT hS => ?_)
    obtain ⟨huu4, qu4⟩ := hpu4
    rw [huu4] at hT
    refine lv_lstore (lv' := [(10, .long y3), (8, .long y1), (0, .ref p0), (1, .int p1), (2, .long p2), (4, .long p3), (6, .long p4)]) hx hb dX11_solve_16 hl (by decide) rfl (fun ls hl => ?_)
    refine lv_aload_n hx hb dX11_solve_18 rfl (lv_at hl 2 rfl) ?_
    refine lv_iload_n hx hb dX11_solve_19 rfl (lv_at hl 3 rfl) ?_
    refine lv_iconst (v := (0 : Int32)) hx hb dX11_solve_20 (by decide) ?_
    refine lv_iconst (v := (2 : Int32)) hx hb dX11_solve_21 (by decide) ?_
    refine tw_Vl (q := (RX11, TX11, 31)) (As := [.int p1, .int (0 : Int32), .int (2 : Int32)]) (rest := []) ⟨hx, hb, hml, hown, hts⟩ (c_X11_tableOf l D cy κ G p0 k0 p1 (by omega) (0 : Int32) (2 : Int32)) (cwV 3 hts gX11_solve_X11_tableOf rfl rfl rfl (by decide +kernel) ⟨Nat.le_of_ble_eq_true rfl, Nat.le_of_ble_eq_true rfl⟩) hK hT hS k0 (by decide) rfl rfl hl.1 rfl (Nat.le_of_ble_eq_true rfl) dX11_solve_22 ⟨Nat.zero_le _, Nat.zero_le _⟩ (fun y5 u6 H locs hpu6 hT hS => ?_)
    obtain ⟨huu6, qu6⟩ := hpu6
    rw [huu6] at hT
    refine lv_lstore (lv' := [(12, .long y5), (10, .long y3), (8, .long y1), (0, .ref p0), (1, .int p1), (2, .long p2), (4, .long p3), (6, .long p4)]) hx hb dX11_solve_25 hl (by decide) rfl (fun ls hl => ?_)
    refine lv_aload_n hx hb dX11_solve_27 rfl (lv_at hl 3 rfl) ?_
    refine lv_iload_n hx hb dX11_solve_28 rfl (lv_at hl 4 rfl) ?_
    refine lv_iconst (v := (0 : Int32)) hx hb dX11_solve_29 (by decide) ?_
    refine lv_iconst (v := (3 : Int32)) hx hb dX11_solve_30 (by decide) ?_
    refine tw_Vl (q := (RX11, TX11, 31)) (As := [.int p1, .int (0 : Int32), .int (3 : Int32)]) (rest := []) ⟨hx, hb, hml, hown, hts⟩ (c_X11_tableOf l D cy κ G p0 k0 p1 (by omega) (0 : Int32) (3 : Int32)) (cwV 3 hts gX11_solve_X11_tableOf rfl rfl rfl (by decide +kernel) ⟨Nat.le_of_ble_eq_true rfl, Nat.le_of_ble_eq_true rfl⟩) hK hT hS k0 (by decide) rfl rfl hl.1 rfl (Nat.le_of_ble_eq_true rfl) dX11_solve_31 ⟨Nat.zero_le _, Nat.zero_le _⟩ (fun y7 u8 H locs hpu8 hT hS => ?_)
    obtain ⟨huu8, qu8⟩ := hpu8
    rw [huu8] at hT
    refine lv_lstore (lv' := [(14, .long y7), (12, .long y5), (10, .long y3), (8, .long y1), (0, .ref p0), (1, .int p1), (2, .long p2), (4, .long p3), (6, .long p4)]) hx hb dX11_solve_34 hl (by decide) rfl (fun ls hl => ?_)
    refine lv_aload_n hx hb dX11_solve_36 rfl (lv_at hl 4 rfl) ?_
    refine lv_iload_n hx hb dX11_solve_37 rfl (lv_at hl 5 rfl) ?_
    refine lv_iconst (v := (0 : Int32)) hx hb dX11_solve_38 (by decide) ?_
    refine lv_iconst (v := (4 : Int32)) hx hb dX11_solve_39 (by decide) ?_
    refine tw_Vl (q := (RX11, TX11, 31)) (As := [.int p1, .int (0 : Int32), .int (4 : Int32)]) (rest := []) ⟨hx, hb, hml, hown, hts⟩ (c_X11_tableOf l D cy κ G p0 k0 p1 (by omega) (0 : Int32) (4 : Int32)) (cwV 3 hts gX11_solve_X11_tableOf rfl rfl rfl (by decide +kernel) ⟨Nat.le_of_ble_eq_true rfl, Nat.le_of_ble_eq_true rfl⟩) hK hT hS k0 (by decide) rfl rfl hl.1 rfl (Nat.le_of_ble_eq_true rfl) dX11_solve_40 ⟨Nat.zero_le _, Nat.zero_le _⟩ (fun y9 u10 H locs hpu10 hT hS => ?_)
    obtain ⟨huu10, qu10⟩ := hpu10
    rw [huu10] at hT
    refine lv_lstore (lv' := [(16, .long y9), (14, .long y7), (12, .long y5), (10, .long y3), (8, .long y1), (0, .ref p0), (1, .int p1), (2, .long p2), (4, .long p3), (6, .long p4)]) hx hb dX11_solve_43 hl (by decide) rfl (fun ls hl => ?_)
    refine lv_aload_n hx hb dX11_solve_45 rfl (lv_at hl 5 rfl) ?_
    refine lv_iload_n hx hb dX11_solve_46 rfl (lv_at hl 6 rfl) ?_
    refine lv_iconst (v := (0 : Int32)) hx hb dX11_solve_47 (by decide) ?_
    refine lv_iconst (v := (5 : Int32)) hx hb dX11_solve_48 (by decide) ?_
    refine tw_Vl (q := (RX11, TX11, 31)) (As := [.int p1, .int (0 : Int32), .int (5 : Int32)]) (rest := []) ⟨hx, hb, hml, hown, hts⟩ (c_X11_tableOf l D cy κ G p0 k0 p1 (by omega) (0 : Int32) (5 : Int32)) (cwV 3 hts gX11_solve_X11_tableOf rfl rfl rfl (by decide +kernel) ⟨Nat.le_of_ble_eq_true rfl, Nat.le_of_ble_eq_true rfl⟩) hK hT hS k0 (by decide) rfl rfl hl.1 rfl (Nat.le_of_ble_eq_true rfl) dX11_solve_49 ⟨Nat.zero_le _, Nat.zero_le _⟩ (fun y11 u12 H locs hpu12 hT hS => ?_)
    obtain ⟨huu12, qu12⟩ := hpu12
    rw [huu12] at hT
    refine lv_lstore (lv' := [(18, .long y11), (16, .long y9), (14, .long y7), (12, .long y5), (10, .long y3), (8, .long y1), (0, .ref p0), (1, .int p1), (2, .long p2), (4, .long p3), (6, .long p4)]) hx hb dX11_solve_52 hl (by decide) rfl (fun ls hl => ?_)
    refine lv_lload hx hb dX11_solve_54 (lv_at hl 4 rfl) ?_
    refine lv_lload hx hb dX11_solve_56 (lv_at hl 2 rfl) ?_
    refine lv_lmul hx hb dX11_solve_58 ?_
    refine lv_topl (fun y13 ey13 => ?_)
    refine lv_lload hx hb dX11_solve_59 (lv_at hl 0 rfl) ?_
    refine lv_lload hx hb dX11_solve_61 (lv_at hl 0 rfl) ?_
    refine lv_lmul hx hb dX11_solve_63 ?_
    refine lv_topl (fun y14 ey14 => ?_)
    refine lv_lsub hx hb dX11_solve_64 ?_
    refine lv_topl (fun y15 ey15 => ?_)
    refine lv_lstore (lv' := [(20, .long y15), (18, .long y11), (16, .long y9), (14, .long y7), (12, .long y5), (10, .long y3), (8, .long y1), (0, .ref p0), (1, .int p1), (2, .long p2), (4, .long p3), (6, .long p4)]) hx hb dX11_solve_65 hl (by decide) rfl (fun ls hl => ?_)
    refine lv_lload hx hb dX11_solve_67 (lv_at hl 2 rfl) ?_
    refine lv_lload hx hb dX11_solve_69 (lv_at hl 1 rfl) ?_
    refine lv_lmul hx hb dX11_solve_71 ?_
    refine lv_topl (fun y16 ey16 => ?_)
    refine lv_lload hx hb dX11_solve_72 (lv_at hl 4 rfl) ?_
    refine lv_lload hx hb dX11_solve_74 (lv_at hl 3 rfl) ?_
    refine lv_lmul hx hb dX11_solve_76 ?_
    refine lv_topl (fun y17 ey17 => ?_)
    refine lv_lsub hx hb dX11_solve_77 ?_
    refine lv_topl (fun y18 ey18 => ?_)
    refine lv_lstore (lv' := [(22, .long y18), (20, .long y15), (18, .long y11), (16, .long y9), (14, .long y7), (12, .long y5), (10, .long y3), (8, .long y1), (0, .ref p0), (1, .int p1), (2, .long p2), (4, .long p3), (6, .long p4)]) hx hb dX11_solve_78 hl (by decide) rfl (fun ls hl => ?_)
    refine lv_lload hx hb dX11_solve_80 (lv_at hl 5 rfl) ?_
    refine lv_lload hx hb dX11_solve_82 (lv_at hl 2 rfl) ?_
    refine lv_lmul hx hb dX11_solve_84 ?_
    refine lv_topl (fun y19 ey19 => ?_)
    refine lv_lload hx hb dX11_solve_85 (lv_at hl 6 rfl) ?_
    refine lv_lload hx hb dX11_solve_87 (lv_at hl 3 rfl) ?_
    refine lv_lmul hx hb dX11_solve_89 ?_
    refine lv_topl (fun y20 ey20 => ?_)
    refine lv_lsub hx hb dX11_solve_90 ?_
    refine lv_topl (fun y21 ey21 => ?_)
    refine lv_lstore (lv' := [(24, .long y21), (22, .long y18), (20, .long y15), (18, .long y11), (16, .long y9), (14, .long y7), (12, .long y5), (10, .long y3), (8, .long y1), (0, .ref p0), (1, .int p1), (2, .long p2), (4, .long p3), (6, .long p4)]) hx hb dX11_solve_91 hl (by decide) rfl (fun ls hl => ?_)
    refine lv_lload hx hb dX11_solve_93 (lv_at hl 8 rfl) ?_
    refine lv_lload hx hb dX11_solve_95 (lv_at hl 5 rfl) ?_
    refine lv_lmul hx hb dX11_solve_97 ?_
    refine lv_topl (fun y22 ey22 => ?_)
    refine lv_lload hx hb dX11_solve_98 (lv_at hl 4 rfl) ?_
    refine lv_lload hx hb dX11_solve_100 (lv_at hl 4 rfl) ?_
    refine lv_lmul hx hb dX11_solve_102 ?_
    refine lv_topl (fun y23 ey23 => ?_)
    refine lv_lsub hx hb dX11_solve_103 ?_
    refine lv_topl (fun y24 ey24 => ?_)
    refine lv_lstore (lv' := [(26, .long y24), (24, .long y21), (22, .long y18), (20, .long y15), (18, .long y11), (16, .long y9), (14, .long y7), (12, .long y5), (10, .long y3), (8, .long y1), (0, .ref p0), (1, .int p1), (2, .long p2), (4, .long p3), (6, .long p4)]) hx hb dX11_solve_104 hl (by decide) rfl (fun ls hl => ?_)
    refine lv_lload hx hb dX11_solve_106 (lv_at hl 7 rfl) ?_
    refine lv_lload hx hb dX11_solve_108 (lv_at hl 5 rfl) ?_
    refine lv_lmul hx hb dX11_solve_110 ?_
    refine lv_topl (fun y25 ey25 => ?_)
    refine lv_lload hx hb dX11_solve_111 (lv_at hl 9 rfl) ?_
    refine lv_lload hx hb dX11_solve_113 (lv_at hl 4 rfl) ?_
    refine lv_lmul hx hb dX11_solve_115 ?_
    refine lv_topl (fun y26 ey26 => ?_)
    refine lv_lsub hx hb dX11_solve_116 ?_
    refine lv_topl (fun y27 ey27 => ?_)
    refine lv_lstore (lv' := [(28, .long y27), (26, .long y24), (24, .long y21), (22, .long y18), (20, .long y15), (18, .long y11), (16, .long y9), (14, .long y7), (12, .long y5), (10, .long y3), (8, .long y1), (0, .ref p0), (1, .int p1), (2, .long p2), (4, .long p3), (6, .long p4)]) hx hb dX11_solve_117 hl (by decide) rfl (fun ls hl => ?_)
    refine lv_lload hx hb dX11_solve_119 (lv_at hl 10 rfl) ?_
    refine lv_lload hx hb dX11_solve_121 (lv_at hl 9 rfl) ?_
    refine lv_lmul hx hb dX11_solve_123 ?_
    refine lv_topl (fun y28 ey28 => ?_)
    refine lv_lload hx hb dX11_solve_124 (lv_at hl 8 rfl) ?_
    refine lv_lload hx hb dX11_solve_126 (lv_at hl 8 rfl) ?_
    refine lv_lmul hx hb dX11_solve_128 ?_
    refine lv_topl (fun y29 ey29 => ?_)
    refine lv_lsub hx hb dX11_solve_129 ?_
    refine lv_topl (fun y30 ey30 => ?_)
    refine lv_lstore (lv' := [(30, .long y30), (28, .long y27), (26, .long y24), (24, .long y21), (22, .long y18), (20, .long y15), (18, .long y11), (16, .long y9), (14, .long y7), (12, .long y5), (10, .long y3), (8, .long y1), (0, .ref p0), (1, .int p1), (2, .long p2), (4, .long p3), (6, .long p4)]) hx hb dX11_solve_130 hl (by decide) rfl (fun ls hl => ?_)
    refine lv_aload_n hx hb dX11_solve_132 rfl (lv_at hl 12 rfl) ?_
    refine lv_lload hx hb dX11_solve_133 (lv_at hl 11 rfl) ?_
    refine lv_lload hx hb dX11_solve_135 (lv_at hl 5 rfl) ?_
    refine lv_lmul hx hb dX11_solve_137 ?_
    refine lv_topl (fun y31 ey31 => ?_)
    refine lv_lload hx hb dX11_solve_138 (lv_at hl 9 rfl) ?_
    refine lv_lload hx hb dX11_solve_140 (lv_at hl 4 rfl) ?_
    refine lv_lmul hx hb dX11_solve_142 ?_
    refine lv_topl (fun y32 ey32 => ?_)
    refine lv_ladd hx hb dX11_solve_143 ?_
    refine lv_topl (fun y33 ey33 => ?_)
    refine lv_lload hx hb dX11_solve_144 (lv_at hl 7 rfl) ?_
    refine lv_lload hx hb dX11_solve_146 (lv_at hl 3 rfl) ?_
    refine lv_lmul hx hb dX11_solve_148 ?_
    refine lv_topl (fun y34 ey34 => ?_)
    refine lv_ladd hx hb dX11_solve_149 ?_
    refine lv_topl (fun y35 ey35 => ?_)
    refine pf_11_24 hx hb hts hin11 hown hK hT hS k0 hfl120 dX11_solve_150 (fun H locs hT hS => ?_)
    refine lv_aload_n hx hb dX11_solve_153 rfl (lv_at hl 12 rfl) ?_
    refine lv_lload hx hb dX11_solve_154 (lv_at hl 5 rfl) ?_
    refine lv_lload_n hx hb dX11_solve_156 rfl (lv_at hl 14 rfl) ?_
    refine lv_lmul hx hb dX11_solve_157 ?_
    refine lv_topl (fun y36 ey36 => ?_)
    refine lv_lload hx hb dX11_solve_158 (lv_at hl 4 rfl) ?_
    refine lv_lload hx hb dX11_solve_160 (lv_at hl 15 rfl) ?_
    refine lv_lmul hx hb dX11_solve_162 ?_
    refine lv_topl (fun y37 ey37 => ?_)
    refine lv_ladd hx hb dX11_solve_163 ?_
    refine lv_topl (fun y38 ey38 => ?_)
    refine lv_lload hx hb dX11_solve_164 (lv_at hl 3 rfl) ?_
    refine lv_lload hx hb dX11_solve_166 (lv_at hl 16 rfl) ?_
    refine lv_lmul hx hb dX11_solve_168 ?_
    refine lv_topl (fun y39 ey39 => ?_)
    refine lv_ladd hx hb dX11_solve_169 ?_
    refine lv_topl (fun y40 ey40 => ?_)
    refine pf_11_21 hx hb hts hin11 hown hK hT hS k0 hfl124 dX11_solve_170 (fun H locs hT hS => ?_)
    refine lv_aload_n hx hb dX11_solve_173 rfl (lv_at hl 12 rfl) ?_
    refine lv_lload hx hb dX11_solve_174 (lv_at hl 4 rfl) ?_
    refine lv_lload_n hx hb dX11_solve_176 rfl (lv_at hl 14 rfl) ?_
    refine lv_lmul hx hb dX11_solve_177 ?_
    refine lv_topl (fun y41 ey41 => ?_)
    refine lv_lload hx hb dX11_solve_178 (lv_at hl 2 rfl) ?_
    refine lv_lload hx hb dX11_solve_180 (lv_at hl 15 rfl) ?_
    refine lv_lmul hx hb dX11_solve_182 ?_
    refine lv_topl (fun y42 ey42 => ?_)
    refine lv_ladd hx hb dX11_solve_183 ?_
    refine lv_topl (fun y43 ey43 => ?_)
    refine lv_lload hx hb dX11_solve_184 (lv_at hl 1 rfl) ?_
    refine lv_lload hx hb dX11_solve_186 (lv_at hl 16 rfl) ?_
    refine lv_lmul hx hb dX11_solve_188 ?_
    refine lv_topl (fun y44 ey44 => ?_)
    refine lv_ladd hx hb dX11_solve_189 ?_
    refine lv_topl (fun y45 ey45 => ?_)
    refine pf_11_22 hx hb hts hin11 hown hK hT hS k0 hfl127 dX11_solve_190 (fun H locs hT hS => ?_)
    refine lv_aload_n hx hb dX11_solve_193 rfl (lv_at hl 12 rfl) ?_
    refine lv_lload hx hb dX11_solve_194 (lv_at hl 3 rfl) ?_
    refine lv_lload_n hx hb dX11_solve_196 rfl (lv_at hl 14 rfl) ?_
    refine lv_lmul hx hb dX11_solve_197 ?_
    refine lv_topl (fun y46 ey46 => ?_)
    refine lv_lload hx hb dX11_solve_198 (lv_at hl 1 rfl) ?_
    refine lv_lload hx hb dX11_solve_200 (lv_at hl 15 rfl) ?_
    refine lv_lmul hx hb dX11_solve_202 ?_
    refine lv_topl (fun y47 ey47 => ?_)
    refine lv_ladd hx hb dX11_solve_203 ?_
    refine lv_topl (fun y48 ey48 => ?_)
    refine lv_lload hx hb dX11_solve_204 (lv_at hl 0 rfl) ?_
    refine lv_lload hx hb dX11_solve_206 (lv_at hl 16 rfl) ?_
    refine lv_lmul hx hb dX11_solve_208 ?_
    refine lv_topl (fun y49 ey49 => ?_)
    refine lv_ladd hx hb dX11_solve_209 ?_
    refine lv_topl (fun y50 ey50 => ?_)
    refine pf_11_23 hx hb hts hin11 hown hK hT hS k0 hfl130 dX11_solve_210 (fun H locs hT hS => ?_)
    exact hret H locs ls 213 G dX11_solve_213 ⟨rfl, trivial⟩ hT hS
  exact main s.heap [] hT va_S.rf

abbrev rmX11_determinant : Room := { frames := 4, cells := 0, slots := 0, locals := 131 }
set_option maxHeartbeats 4000000 in
set_option maxRecDepth 100000 in
theorem c_X11_determinant (l : Launch) (D : va_G) (cy : Nat → ClassId) (κ : Nat → Nat) (G : Gh) (p0 : Nat) (k0 : κ p0 = 12) (p1 : Int32) : Met l yX11_determinant wsX11_determinant rmX11_determinant (va_Pc [.ref p0, .int p1] (fun U => WW D cy κ G U)) (va_Ql (fun (r : Int64) (u : Gh) => u = G ∧ (True)) (fun u t => WW D cy κ u t) (AA κ)) 0 0 (AA κ) := by
  refine Met.twl (cc := cX11_determinant) (maxL := 2) (by decide) rfl (Nat.le_of_ble_eq_true rfl) ?_
  intro p e s m args below meth c Q hx hb hml hown hts hK hT hret ls hl
  have hl : lv_has ls 2 [(0, .ref p0), (1, .int p1)] := hl
  have hlc0 : (0 : Int64).toInt = 0 := rfl
  have hfl120 := hts (.fieldLink RX11 120 "PlyPlatesModel" "below" "J") (by decide +kernel)
  have hin11 : ∀ w ∈ u_ws RX11 TX11 31, w ∈ wsX11_determinant := by decide +kernel
  have hkl112 := hts (.constantLong RX11 112 (-9223372036854775808)) (by decide +kernel)
  have hlk112 : (-9223372036854775808 : Int64).toInt = -9223372036854775808 := rfl
  have main : ∀ (H : Heap) (locs : List Loc), TW D cy κ G H → va_S (AA κ) s.heap H locs → W p l e rmX11_determinant s m args below meth c H locs 0 0 Q (F0 m 0 ls []) := by
    intro H locs hT hS
    refine lv_aload_n hx hb dX11_determinant_0 rfl (lv_at hl 0 rfl) ?_
    refine lv_iload_n hx hb dX11_determinant_1 rfl (lv_at hl 1 rfl) ?_
    refine tw_Vi (q := (RX11, TX11, 31)) (As := [.int p1]) (rest := []) ⟨hx, hb, hml, hown, hts⟩ (c_X11_isPlate l D cy κ G p0 k0 p1) (cwV 1 hts gX11_determinant_X11_isPlate rfl rfl rfl (by decide +kernel) ⟨Nat.le_of_ble_eq_true rfl, Nat.le_of_ble_eq_true rfl⟩) hK hT hS k0 (by decide) rfl rfl hl.1 rfl (Nat.le_of_ble_eq_true rfl) dX11_determinant_2 ⟨Nat.zero_le _, Nat.zero_le _⟩ (fun x1 u2 H locs hpu2 hT hS => ?_)
    obtain ⟨huu2, qu2⟩ := hpu2
    rw [huu2] at hT
    refine tb_if_ne (tgt := 12) hx hb dX11_determinant_5 (by decide) (fun c3 => ?_) (fun c3 => ?_)
    · skip
      refine lv_aload_n hx hb dX11_determinant_12 rfl (lv_at hl 0 rfl) ?_
      refine lv_iload_n hx hb dX11_determinant_13 rfl (lv_at hl 1 rfl) ?_
      refine lv_lconst (v := 0) hx hb dX11_determinant_14 (by decide) ?_
      refine lv_lconst (v := 0) hx hb dX11_determinant_15 (by decide) ?_
      refine lv_lconst (v := 0) hx hb dX11_determinant_16 (by decide) ?_
      refine tw_Vv (q := (RX11, TX11, 31)) (As := [.int p1, .long (0 : Int64), .long (0 : Int64), .long (0 : Int64)]) (rest := []) ⟨hx, hb, hml, hown, hts⟩ (c_X11_solve l D cy κ G p0 k0 p1 (by omega) (0 : Int64) (0 : Int64) (0 : Int64)) (cwV 4 hts gX11_determinant_X11_solve rfl rfl rfl (by decide +kernel) ⟨Nat.le_of_ble_eq_true rfl, Nat.le_of_ble_eq_true rfl⟩) hK hT hS k0 (by decide) rfl rfl hl.1 rfl (Nat.le_of_ble_eq_true rfl) dX11_determinant_17 ⟨Nat.zero_le _, Nat.zero_le _⟩ (fun u5 H locs hpu5 hT hS => ?_)
      obtain ⟨huu5, qu5⟩ := hpu5
      rw [huu5] at hT
      refine lv_aload_n hx hb dX11_determinant_20 rfl (lv_at hl 0 rfl) ?_
      refine gf_11_24 hx hb hts hin11 hown hK hT k0 hfl120 dX11_determinant_21 (fun y6 ky6 fvy6 => ?_)
      exact hret H locs ls 24 y6 G dX11_determinant_24 ⟨rfl, trivial⟩ hT hS
    · skip
      refine lv_ldc2 hx hb hown hkl112 dX11_determinant_8 ?_
      exact hret H locs ls 11 (-9223372036854775808 : Int64) G dX11_determinant_11 ⟨rfl, trivial⟩ hT hS
  exact main s.heap [] hT va_S.rf

abbrev rmX11_isLoad : Room := { frames := 1, cells := 0, slots := 0, locals := 22 }
set_option maxHeartbeats 4000000 in
set_option maxRecDepth 100000 in
theorem c_X11_isLoad (l : Launch) (D : va_G) (cy : Nat → ClassId) (κ : Nat → Nat) (G : Gh) (p0 : Int32) (p1 : Int32) (p2 : Int32) : Met l yX11_isLoad wsX11_isLoad rmX11_isLoad (va_Pc [.int p0, .int p1, .int p2] (fun U => WW D cy κ G U)) (va_Qi (fun (r : Int32) (u : Gh) => u = G ∧ (r.toInt = 1 ∧ -100 ≤ p0.toInt ∧ p0.toInt ≤ 100 ∧ -100 ≤ p1.toInt ∧ p1.toInt ≤ 100 ∧ -100 ≤ p2.toInt ∧ p2.toInt ≤ 100 ∨ r.toInt = 0 ∧ (p0.toInt < -100 ∨ 100 < p0.toInt ∨ p1.toInt < -100 ∨ 100 < p1.toInt ∨ p2.toInt < -100 ∨ 100 < p2.toInt))) (fun u t => WW D cy κ u t) (AA κ)) 0 0 (AA κ) := by
  refine Met.twz (cc := cX11_isLoad) (maxL := 3) (by decide) rfl (Nat.le_of_ble_eq_true rfl) ?_
  intro p e s m args below meth c Q hx hb hml hown hts hK hT hret ls hl
  have hl : lv_has ls 3 [(0, .int p0), (1, .int p1), (2, .int p2)] := hl
  have hcm100 : (-100 : Int32).toInt = -100 := rfl
  have hc100 : (100 : Int32).toInt = 100 := rfl
  have hc0 : (0 : Int32).toInt = 0 := rfl
  have hc1 : (1 : Int32).toInt = 1 := rfl
  have main : ∀ (H : Heap) (locs : List Loc), TW D cy κ G H → va_S (AA κ) s.heap H locs → W p l e rmX11_isLoad s m args below meth c H locs 0 0 Q (F0 m 0 ls []) := by
    intro H locs hT hS
    refine lv_iload_n hx hb dX11_isLoad_0 rfl (lv_at hl 0 rfl) ?_
    refine lv_bipush (v := (-100 : Int32)) hx hb dX11_isLoad_1 (by decide) ?_
    refine lv_bipush (v := (100 : Int32)) hx hb dX11_isLoad_3 (by decide) ?_
    refine tw_Si (As := [.int p0, .int (-100 : Int32), .int (100 : Int32)]) (rest := []) ⟨hx, hb, hml, hown, hts⟩ (c_X11_isIn l D cy κ G p0 (-100 : Int32) (100 : Int32)) (va_cwS 3 hts gX11_isLoad_X11_isIn rfl rfl rfl (by decide +kernel) ⟨Nat.le_of_ble_eq_true rfl, Nat.le_of_ble_eq_true rfl⟩) hK hT hS rfl hl.1 rfl (Nat.le_of_ble_eq_true rfl) dX11_isLoad_5 ⟨Nat.zero_le _, Nat.zero_le _⟩ (fun x1 u2 H locs hpu2 hT hS => ?_)
    obtain ⟨huu2, qu2⟩ := hpu2
    rw [huu2] at hT
    refine tb_if_eq (tgt := 37) hx hb dX11_isLoad_8 (by decide) (fun c3 => ?_) (fun c3 => ?_)
    · skip
      refine lv_iconst (v := (0 : Int32)) hx hb dX11_isLoad_37 (by decide) ?_
      exact hret H locs ls 38 (0 : Int32) G dX11_isLoad_38 (by omega) ⟨rfl, by omega⟩ hT hS
    · skip
      refine lv_iload_n hx hb dX11_isLoad_11 rfl (lv_at hl 1 rfl) ?_
      refine lv_bipush (v := (-100 : Int32)) hx hb dX11_isLoad_12 (by decide) ?_
      refine lv_bipush (v := (100 : Int32)) hx hb dX11_isLoad_14 (by decide) ?_
      refine tw_Si (As := [.int p1, .int (-100 : Int32), .int (100 : Int32)]) (rest := []) ⟨hx, hb, hml, hown, hts⟩ (c_X11_isIn l D cy κ G p1 (-100 : Int32) (100 : Int32)) (va_cwS 3 hts gX11_isLoad_X11_isIn rfl rfl rfl (by decide +kernel) ⟨Nat.le_of_ble_eq_true rfl, Nat.le_of_ble_eq_true rfl⟩) hK hT hS rfl hl.1 rfl (Nat.le_of_ble_eq_true rfl) dX11_isLoad_16 ⟨Nat.zero_le _, Nat.zero_le _⟩ (fun x4 u5 H locs hpu5 hT hS => ?_)
      obtain ⟨huu5, qu5⟩ := hpu5
      rw [huu5] at hT
      refine tb_if_eq (tgt := 37) hx hb dX11_isLoad_19 (by decide) (fun c6 => ?_) (fun c6 => ?_)
      · skip
        refine lv_iconst (v := (0 : Int32)) hx hb dX11_isLoad_37 (by decide) ?_
        exact hret H locs ls 38 (0 : Int32) G dX11_isLoad_38 (by omega) ⟨rfl, by omega⟩ hT hS
      · skip
        refine lv_iload_n hx hb dX11_isLoad_22 rfl (lv_at hl 2 rfl) ?_
        refine lv_bipush (v := (-100 : Int32)) hx hb dX11_isLoad_23 (by decide) ?_
        refine lv_bipush (v := (100 : Int32)) hx hb dX11_isLoad_25 (by decide) ?_
        refine tw_Si (As := [.int p2, .int (-100 : Int32), .int (100 : Int32)]) (rest := []) ⟨hx, hb, hml, hown, hts⟩ (c_X11_isIn l D cy κ G p2 (-100 : Int32) (100 : Int32)) (va_cwS 3 hts gX11_isLoad_X11_isIn rfl rfl rfl (by decide +kernel) ⟨Nat.le_of_ble_eq_true rfl, Nat.le_of_ble_eq_true rfl⟩) hK hT hS rfl hl.1 rfl (Nat.le_of_ble_eq_true rfl) dX11_isLoad_27 ⟨Nat.zero_le _, Nat.zero_le _⟩ (fun x7 u8 H locs hpu8 hT hS => ?_)
        obtain ⟨huu8, qu8⟩ := hpu8
        rw [huu8] at hT
        refine tb_if_eq (tgt := 37) hx hb dX11_isLoad_30 (by decide) (fun c9 => ?_) (fun c9 => ?_)
        · skip
          refine lv_iconst (v := (0 : Int32)) hx hb dX11_isLoad_37 (by decide) ?_
          exact hret H locs ls 38 (0 : Int32) G dX11_isLoad_38 (by omega) ⟨rfl, by omega⟩ hT hS
        · skip
          refine lv_iconst (v := (1 : Int32)) hx hb dX11_isLoad_33 (by decide) ?_
          refine lv_goto (tgt := 38) hx hb dX11_isLoad_34 (by decide) ?_
          exact hret H locs ls 38 (1 : Int32) G dX11_isLoad_38 (by omega) ⟨rfl, by omega⟩ hT hS
  exact main s.heap [] hT va_S.rf

abbrev rmX11_growth : Room := { frames := 2, cells := 0, slots := 0, locals := 43 }
set_option maxHeartbeats 4000000 in
set_option maxRecDepth 100000 in
theorem c_X11_growth (l : Launch) (D : va_G) (cy : Nat → ClassId) (κ : Nat → Nat) (G : Gh) (p0 : Nat) (k0 : κ p0 = 12) (p1 : Int32) (p2 : Int32) (p3 : Int32) : Met l yX11_growth wsX11_growth rmX11_growth (va_Pc [.ref p0, .int p1, .int p2, .int p3] (fun U => WW D cy κ G U)) (va_Qi (fun (r : Int32) (u : Gh) => u = G ∧ (r.toInt = -1 ∧ (p1.toInt < 0 ∨ (G.1 3).toInt ≤ p1.toInt) ∨ 0 ≤ p1.toInt ∧ p1.toInt < (G.1 3).toInt ∧ (r.toInt = -2 ∧ (p2.toInt < -20 ∨ 20 < p2.toInt ∨ p3.toInt < -20 ∨ 20 < p3.toInt) ∨ r.toInt = 0 ∧ -20 ≤ p2.toInt ∧ p2.toInt ≤ 20 ∧ -20 ≤ p3.toInt ∧ p3.toInt ≤ 20))) (fun u t => WW D cy κ u t) (AA κ)) 0 0 (AA κ) := by
  refine Met.twi (cc := cX11_growth) (maxL := 4) (by decide) rfl (Nat.le_of_ble_eq_true rfl) ?_
  intro p e s m args below meth c Q hx hb hml hown hts hK hT hret ls hl
  have hl : lv_has ls 4 [(0, .ref p0), (1, .int p1), (2, .int p2), (3, .int p3)] := hl
  have hcm20 : (-20 : Int32).toInt = -20 := rfl
  have hc20 : (20 : Int32).toInt = 20 := rfl
  have hcm2 : (-2 : Int32).toInt = -2 := rfl
  have hfl29 := hts (.fieldLink RX11 29 "PlyPlatesModel" "along" "[I") (by decide +kernel)
  have hin11 : ∀ w ∈ u_ws RX11 TX11 31, w ∈ wsX11_growth := by decide +kernel
  have hfl32 := hts (.fieldLink RX11 32 "PlyPlatesModel" "across" "[I") (by decide +kernel)
  have hc0 : (0 : Int32).toInt = 0 := rfl
  have hcm1 : (-1 : Int32).toInt = -1 := rfl
  have main : ∀ (H : Heap) (locs : List Loc), TW D cy κ G H → va_S (AA κ) s.heap H locs → W p l e rmX11_growth s m args below meth c H locs 0 0 Q (F0 m 0 ls []) := by
    intro H locs hT hS
    refine lv_aload_n hx hb dX11_growth_0 rfl (lv_at hl 0 rfl) ?_
    refine lv_iload_n hx hb dX11_growth_1 rfl (lv_at hl 1 rfl) ?_
    refine tw_Vi (q := (RX11, TX11, 31)) (As := [.int p1]) (rest := []) ⟨hx, hb, hml, hown, hts⟩ (c_X11_isStuff l D cy κ G p0 k0 p1) (cwV 1 hts gX11_growth_X11_isStuff rfl rfl rfl (by decide +kernel) ⟨Nat.le_of_ble_eq_true rfl, Nat.le_of_ble_eq_true rfl⟩) hK hT hS k0 (by decide) rfl rfl hl.1 rfl (Nat.le_of_ble_eq_true rfl) dX11_growth_2 ⟨Nat.zero_le _, Nat.zero_le _⟩ (fun x1 u2 H locs hpu2 hT hS => ?_)
    obtain ⟨huu2, qu2⟩ := hpu2
    rw [huu2] at hT
    refine tb_if_ne (tgt := 10) hx hb dX11_growth_5 (by decide) (fun c3 => ?_) (fun c3 => ?_)
    · skip
      refine lv_iload_n hx hb dX11_growth_10 rfl (lv_at hl 2 rfl) ?_
      refine lv_bipush (v := (-20 : Int32)) hx hb dX11_growth_11 (by decide) ?_
      refine lv_bipush (v := (20 : Int32)) hx hb dX11_growth_13 (by decide) ?_
      refine tw_Si (As := [.int p2, .int (-20 : Int32), .int (20 : Int32)]) (rest := []) ⟨hx, hb, hml, hown, hts⟩ (c_X11_isIn l D cy κ G p2 (-20 : Int32) (20 : Int32)) (va_cwS 3 hts gX11_growth_X11_isIn rfl rfl rfl (by decide +kernel) ⟨Nat.le_of_ble_eq_true rfl, Nat.le_of_ble_eq_true rfl⟩) hK hT hS rfl hl.1 rfl (Nat.le_of_ble_eq_true rfl) dX11_growth_15 ⟨Nat.zero_le _, Nat.zero_le _⟩ (fun x4 u5 H locs hpu5 hT hS => ?_)
      obtain ⟨huu5, qu5⟩ := hpu5
      rw [huu5] at hT
      refine tb_if_eq (tgt := 32) hx hb dX11_growth_18 (by decide) (fun c6 => ?_) (fun c6 => ?_)
      · skip
        refine lv_bipush (v := (-2 : Int32)) hx hb dX11_growth_32 (by decide) ?_
        exact hret H locs ls 34 (-2 : Int32) G dX11_growth_34 ⟨rfl, by omega⟩ hT hS
      · skip
        refine lv_iload_n hx hb dX11_growth_21 rfl (lv_at hl 3 rfl) ?_
        refine lv_bipush (v := (-20 : Int32)) hx hb dX11_growth_22 (by decide) ?_
        refine lv_bipush (v := (20 : Int32)) hx hb dX11_growth_24 (by decide) ?_
        refine tw_Si (As := [.int p3, .int (-20 : Int32), .int (20 : Int32)]) (rest := []) ⟨hx, hb, hml, hown, hts⟩ (c_X11_isIn l D cy κ G p3 (-20 : Int32) (20 : Int32)) (va_cwS 3 hts gX11_growth_X11_isIn rfl rfl rfl (by decide +kernel) ⟨Nat.le_of_ble_eq_true rfl, Nat.le_of_ble_eq_true rfl⟩) hK hT hS rfl hl.1 rfl (Nat.le_of_ble_eq_true rfl) dX11_growth_26 ⟨Nat.zero_le _, Nat.zero_le _⟩ (fun x7 u8 H locs hpu8 hT hS => ?_)
        obtain ⟨huu8, qu8⟩ := hpu8
        rw [huu8] at hT
        refine tb_if_ne (tgt := 35) hx hb dX11_growth_29 (by decide) (fun c9 => ?_) (fun c9 => ?_)
        · skip
          refine lv_aload_n hx hb dX11_growth_35 rfl (lv_at hl 0 rfl) ?_
          refine gf_11_11 hx hb hts hin11 hown hK hT k0 hfl29 dX11_growth_36 (fun a10 ka10 fva10 => ?_)
          refine lv_iload_n hx hb dX11_growth_39 rfl (lv_at hl 1 rfl) ?_
          refine lv_iload_n hx hb dX11_growth_40 rfl (lv_at hl 2 rfl) ?_
          refine tw_ias (K := 1003) (n := 3) (P := fun _ => True) hx hb hK hT hS ka10 (by decide) rfl rfl (by omega) rfl trivial dX11_growth_41 (fun H locs hT hS hq => ?_)
          refine lv_aload_n hx hb dX11_growth_42 rfl (lv_at hl 0 rfl) ?_
          refine gf_11_12 hx hb hts hin11 hown hK hT k0 hfl32 dX11_growth_43 (fun a11 ka11 fva11 => ?_)
          refine lv_iload_n hx hb dX11_growth_46 rfl (lv_at hl 1 rfl) ?_
          refine lv_iload_n hx hb dX11_growth_47 rfl (lv_at hl 3 rfl) ?_
          refine tw_ias (K := 1003) (n := 3) (P := fun _ => True) hx hb hK hT hS ka11 (by decide) rfl rfl (by omega) rfl trivial dX11_growth_48 (fun H locs hT hS hq => ?_)
          refine lv_iconst (v := (0 : Int32)) hx hb dX11_growth_49 (by decide) ?_
          exact hret H locs ls 50 (0 : Int32) G dX11_growth_50 ⟨rfl, by omega⟩ hT hS
        · skip
          refine lv_bipush (v := (-2 : Int32)) hx hb dX11_growth_32 (by decide) ?_
          exact hret H locs ls 34 (-2 : Int32) G dX11_growth_34 ⟨rfl, by omega⟩ hT hS
    · skip
      refine lv_iconst (v := (-1 : Int32)) hx hb dX11_growth_8 (by decide) ?_
      exact hret H locs ls 9 (-1 : Int32) G dX11_growth_9 ⟨rfl, by omega⟩ hT hS
  exact main s.heap [] hT va_S.rf

abbrev rmX11_rules : Room := { frames := 1, cells := 0, slots := 0, locals := 22 }
set_option maxHeartbeats 4000000 in
set_option maxRecDepth 100000 in
theorem c_X11_rules (l : Launch) (D : va_G) (cy : Nat → ClassId) (κ : Nat → Nat) (G : Gh) (p0 : Nat) (k0 : κ p0 = 12) (p1 : Int32) (p2 : Int32) (p3 : Int32) : Met l yX11_rules wsX11_rules rmX11_rules (va_Pc [.ref p0, .int p1, .int p2, .int p3] (fun U => WW D cy κ G U)) (va_Qi (fun (r : Int32) (u : Gh) => u = G ∧ (True)) (fun u t => WW D cy κ u t) (AA κ)) 0 0 (AA κ) := by
  refine Met.twi (cc := cX11_rules) (maxL := 4) (by decide) rfl (Nat.le_of_ble_eq_true rfl) ?_
  intro p e s m args below meth c Q hx hb hml hown hts hK hT hret ls hl
  have hl : lv_has ls 4 [(0, .ref p0), (1, .int p1), (2, .int p2), (3, .int p3)] := hl
  have hc1 : (1 : Int32).toInt = 1 := rfl
  have hc12 : (12 : Int32).toInt = 12 := rfl
  have hcm2 : (-2 : Int32).toInt = -2 := rfl
  have hc0 : (0 : Int32).toInt = 0 := rfl
  have hc3 : (3 : Int32).toInt = 3 := rfl
  have hfl9 := hts (.fieldLink RX11 9 "PlyPlatesModel" "run" "I") (by decide +kernel)
  have hin11 : ∀ w ∈ u_ws RX11 TX11 31, w ∈ wsX11_rules := by decide +kernel
  have hfl197 := hts (.fieldLink RX11 197 "PlyPlatesModel" "step" "I") (by decide +kernel)
  have hfl200 := hts (.fieldLink RX11 200 "PlyPlatesModel" "each" "I") (by decide +kernel)
  have main : ∀ (H : Heap) (locs : List Loc), TW D cy κ G H → va_S (AA κ) s.heap H locs → W p l e rmX11_rules s m args below meth c H locs 0 0 Q (F0 m 0 ls []) := by
    intro H locs hT hS
    refine lv_iload_n hx hb dX11_rules_0 rfl (lv_at hl 1 rfl) ?_
    refine lv_iconst (v := (1 : Int32)) hx hb dX11_rules_1 (by decide) ?_
    refine lv_bipush (v := (12 : Int32)) hx hb dX11_rules_2 (by decide) ?_
    refine tw_Si (As := [.int p1, .int (1 : Int32), .int (12 : Int32)]) (rest := []) ⟨hx, hb, hml, hown, hts⟩ (c_X11_isIn l D cy κ G p1 (1 : Int32) (12 : Int32)) (va_cwS 3 hts gX11_rules_X11_isIn rfl rfl rfl (by decide +kernel) ⟨Nat.le_of_ble_eq_true rfl, Nat.le_of_ble_eq_true rfl⟩) hK hT hS rfl hl.1 rfl (Nat.le_of_ble_eq_true rfl) dX11_rules_4 ⟨Nat.zero_le _, Nat.zero_le _⟩ (fun x1 u2 H locs hpu2 hT hS => ?_)
    obtain ⟨huu2, qu2⟩ := hpu2
    rw [huu2] at hT
    refine tb_if_eq (tgt := 28) hx hb dX11_rules_7 (by decide) (fun c3 => ?_) (fun c3 => ?_)
    · skip
      refine lv_bipush (v := (-2 : Int32)) hx hb dX11_rules_28 (by decide) ?_
      exact hret H locs ls 30 (-2 : Int32) G dX11_rules_30 ⟨rfl, trivial⟩ hT hS
    · skip
      refine lv_iload_n hx hb dX11_rules_10 rfl (lv_at hl 2 rfl) ?_
      refine lv_iconst (v := (0 : Int32)) hx hb dX11_rules_11 (by decide) ?_
      refine lv_iconst (v := (1 : Int32)) hx hb dX11_rules_12 (by decide) ?_
      refine tw_Si (As := [.int p2, .int (0 : Int32), .int (1 : Int32)]) (rest := []) ⟨hx, hb, hml, hown, hts⟩ (c_X11_isIn l D cy κ G p2 (0 : Int32) (1 : Int32)) (va_cwS 3 hts gX11_rules_X11_isIn rfl rfl rfl (by decide +kernel) ⟨Nat.le_of_ble_eq_true rfl, Nat.le_of_ble_eq_true rfl⟩) hK hT hS rfl hl.1 rfl (Nat.le_of_ble_eq_true rfl) dX11_rules_13 ⟨Nat.zero_le _, Nat.zero_le _⟩ (fun x4 u5 H locs hpu5 hT hS => ?_)
      obtain ⟨huu5, qu5⟩ := hpu5
      rw [huu5] at hT
      refine tb_if_eq (tgt := 28) hx hb dX11_rules_16 (by decide) (fun c6 => ?_) (fun c6 => ?_)
      · skip
        refine lv_bipush (v := (-2 : Int32)) hx hb dX11_rules_28 (by decide) ?_
        exact hret H locs ls 30 (-2 : Int32) G dX11_rules_30 ⟨rfl, trivial⟩ hT hS
      · skip
        refine lv_iload_n hx hb dX11_rules_19 rfl (lv_at hl 3 rfl) ?_
        refine lv_iconst (v := (0 : Int32)) hx hb dX11_rules_20 (by decide) ?_
        refine lv_iconst (v := (3 : Int32)) hx hb dX11_rules_21 (by decide) ?_
        refine tw_Si (As := [.int p3, .int (0 : Int32), .int (3 : Int32)]) (rest := []) ⟨hx, hb, hml, hown, hts⟩ (c_X11_isIn l D cy κ G p3 (0 : Int32) (3 : Int32)) (va_cwS 3 hts gX11_rules_X11_isIn rfl rfl rfl (by decide +kernel) ⟨Nat.le_of_ble_eq_true rfl, Nat.le_of_ble_eq_true rfl⟩) hK hT hS rfl hl.1 rfl (Nat.le_of_ble_eq_true rfl) dX11_rules_22 ⟨Nat.zero_le _, Nat.zero_le _⟩ (fun x7 u8 H locs hpu8 hT hS => ?_)
        obtain ⟨huu8, qu8⟩ := hpu8
        rw [huu8] at hT
        refine tb_if_ne (tgt := 31) hx hb dX11_rules_25 (by decide) (fun c9 => ?_) (fun c9 => ?_)
        · skip
          refine lv_aload_n hx hb dX11_rules_31 rfl (lv_at hl 0 rfl) ?_
          refine lv_iload_n hx hb dX11_rules_32 rfl (lv_at hl 1 rfl) ?_
          refine pf_11_3 hx hb hts hin11 hown hK hT hS k0 hfl9 dX11_rules_33 (fun H locs hT hS => ?_)
          refine lv_aload_n hx hb dX11_rules_36 rfl (lv_at hl 0 rfl) ?_
          refine lv_iload_n hx hb dX11_rules_37 rfl (lv_at hl 2 rfl) ?_
          refine pf_11_4 hx hb hts hin11 hown hK hT hS k0 hfl197 dX11_rules_38 (fun H locs hT hS => ?_)
          refine lv_aload_n hx hb dX11_rules_41 rfl (lv_at hl 0 rfl) ?_
          refine lv_iload_n hx hb dX11_rules_42 rfl (lv_at hl 3 rfl) ?_
          refine pf_11_5 hx hb hts hin11 hown hK hT hS k0 hfl200 dX11_rules_43 (fun H locs hT hS => ?_)
          refine lv_iconst (v := (0 : Int32)) hx hb dX11_rules_46 (by decide) ?_
          exact hret H locs ls 47 (0 : Int32) G dX11_rules_47 ⟨rfl, trivial⟩ hT hS
        · skip
          refine lv_bipush (v := (-2 : Int32)) hx hb dX11_rules_28 (by decide) ?_
          exact hret H locs ls 30 (-2 : Int32) G dX11_rules_30 ⟨rfl, trivial⟩ hT hS
  exact main s.heap [] hT va_S.rf

abbrev rmX11_ruleOf : Room := { frames := 1, cells := 0, slots := 0, locals := 21 }
set_option maxHeartbeats 4000000 in
set_option maxRecDepth 100000 in
theorem c_X11_ruleOf (l : Launch) (D : va_G) (cy : Nat → ClassId) (κ : Nat → Nat) (G : Gh) (p0 : Nat) (k0 : κ p0 = 12) (p1 : Int32) (q1 : 0 ≤ p1.toInt ∧ p1.toInt ≤ 4) : Met l yX11_ruleOf wsX11_ruleOf rmX11_ruleOf (va_Pc [.ref p0, .int p1] (fun U => WW D cy κ G U)) (va_Qi (fun (r : Int32) (u : Gh) => u = G ∧ (True)) (fun u t => WW D cy κ u t) (AA κ)) 0 0 (AA κ) := by
  refine Met.twi (cc := cX11_ruleOf) (maxL := 8) (by decide) rfl (Nat.le_of_ble_eq_true rfl) ?_
  intro p e s m args below meth c Q hx hb hml hown hts hK hT hret ls hl
  have hl : lv_has ls 8 [(0, .ref p0), (1, .int p1)] := hl
  have hc0 : (0 : Int32).toInt = 0 := rfl
  have hc1 : (1 : Int32).toInt = 1 := rfl
  have hfl35 := hts (.fieldLink RX11 35 "PlyPlatesModel" "many" "[I") (by decide +kernel)
  have hin11 : ∀ w ∈ u_ws RX11 TX11 31, w ∈ wsX11_ruleOf := by decide +kernel
  have hfl197 := hts (.fieldLink RX11 197 "PlyPlatesModel" "step" "I") (by decide +kernel)
  have hc4 : (4 : Int32).toInt = 4 := rfl
  have hfl200 := hts (.fieldLink RX11 200 "PlyPlatesModel" "each" "I") (by decide +kernel)
  have hc3 : (3 : Int32).toInt = 3 := rfl
  have hfl41 := hts (.fieldLink RX11 41 "PlyPlatesModel" "way" "[I") (by decide +kernel)
  have hc2 : (2 : Int32).toInt = 2 := rfl
  have hfl9 := hts (.fieldLink RX11 9 "PlyPlatesModel" "run" "I") (by decide +kernel)
  have hcm1 : (-1 : Int32).toInt = -1 := rfl
  have main : ∀ (H : Heap) (locs : List Loc), TW D cy κ G H → va_S (AA κ) s.heap H locs → W p l e rmX11_ruleOf s m args below meth c H locs 0 0 Q (F0 m 0 ls []) := by
    intro H locs hT hS
    refine lv_iconst (v := (0 : Int32)) hx hb dX11_ruleOf_0 (by decide) ?_
    refine lv_istore_n (lv' := [(2, .int (0 : Int32)), (0, .ref p0), (1, .int p1)]) hx hb dX11_ruleOf_1 rfl hl (by decide) rfl (fun ls hl => ?_)
    refine lv_iconst (v := (1 : Int32)) hx hb dX11_ruleOf_2 (by decide) ?_
    refine lv_istore_n (lv' := [(3, .int (1 : Int32)), (2, .int (0 : Int32)), (0, .ref p0), (1, .int p1)]) hx hb dX11_ruleOf_3 rfl hl (by decide) rfl (fun ls hl => ?_)
    refine lv_iconst (v := (1 : Int32)) hx hb dX11_ruleOf_4 (by decide) ?_
    refine lv_istore (lv' := [(4, .int (1 : Int32)), (3, .int (1 : Int32)), (2, .int (0 : Int32)), (0, .ref p0), (1, .int p1)]) hx hb dX11_ruleOf_5 hl (by decide) rfl (fun ls hl => ?_)
    refine lv_iconst (v := (0 : Int32)) hx hb dX11_ruleOf_7 (by decide) ?_
    refine lv_istore (lv' := [(5, .int (0 : Int32)), (4, .int (1 : Int32)), (3, .int (1 : Int32)), (2, .int (0 : Int32)), (0, .ref p0), (1, .int p1)]) hx hb dX11_ruleOf_8 hl (by decide) rfl (fun ls hl => ?_)
    have L10 : ∀ (nn : Nat) (H : Heap) (locs : List Loc) (ls : Array Slot) (x1 : Int32) (x2 : Int32) (x3 : Int32) (x4 : Int32), (nn = (2147483647 - x1.toInt).toNat) → (TW D cy κ G H) → (va_S (AA κ) s.heap H locs) → (lv_has ls 8 [(5, .int x1), (4, .int x2), (3, .int x3), (2, .int x4), (0, .ref p0), (1, .int p1)]) → (0 ≤ x1.toInt ∧ x1.toInt ≤ 12) → (0 ≤ x2.toInt ∧ x2.toInt ≤ 1) → (0 ≤ x3.toInt ∧ x3.toInt ≤ 1) → W p l e rmX11_ruleOf s m args below meth c H locs 0 0 Q (F0 m 10 ls []) := by
      intro nn
      induction nn using Nat.strongRecOn with
      | _ nn ih10 =>
        intro H locs ls x1 x2 x3 x4 hnn hT hS hl fL10_0 fL10_1 fL10_2
        refine lv_iload hx hb dX11_ruleOf_10 (lv_at hl 0 rfl) ?_
        refine lv_aload_n hx hb dX11_ruleOf_12 rfl (lv_at hl 4 rfl) ?_
        refine gf_11_13 hx hb hts hin11 hown hK hT k0 hfl35 dX11_ruleOf_13 (fun a5 ka5 fva5 => ?_)
        refine lv_iload_n hx hb dX11_ruleOf_16 rfl (lv_at hl 5 rfl) ?_
        refine tw_ia (K := 50) (n := 5) (P := fun x => x = G.1 (100 + p1.toInt.toNat) ∧ (0 ≤ x.toInt ∧ x.toInt ≤ 12) ∧ ((G.1 3).toInt = 0 → x.toInt = 0)) hx hb hK hT ka5 (by decide) rfl rfl (by omega) rfl dX11_ruleOf_17 (fun x6 kx6 fvx6 => ?_)
        have kx6 : x6 = G.1 (100 + p1.toInt.toNat) ∧ (0 ≤ x6.toInt ∧ x6.toInt ≤ 12) ∧ ((G.1 3).toInt = 0 → x6.toInt = 0) := kx6
        have gx6 := congrArg Int32.toInt kx6.1
        have rx6 := kx6.2
        refine tb_icmp_ge (tgt := 123) hx hb dX11_ruleOf_18 (by decide) (fun c7 => ?_) (fun c7 => ?_)
        · skip
          refine lv_iload_n hx hb dX11_ruleOf_123 rfl (lv_at hl 2 rfl) ?_
          refine tb_if_ne (tgt := 129) hx hb dX11_ruleOf_124 (by decide) (fun c8 => ?_) (fun c8 => ?_)
          · skip
            refine lv_aload_n hx hb dX11_ruleOf_129 rfl (lv_at hl 4 rfl) ?_
            refine gf_11_4 hx hb hts hin11 hown hK hT k0 hfl197 dX11_ruleOf_130 (fun x9 kx9 fvx9 => ?_)
            refine lv_iconst (v := (1 : Int32)) hx hb dX11_ruleOf_133 (by decide) ?_
            have J144 : ∀ (H : Heap) (locs : List Loc) (ls : Array Slot) , (TW D cy κ G H) → (va_S (AA κ) s.heap H locs) → (lv_has ls 8 [(5, .int x1), (4, .int x2), (3, .int x3), (2, .int x4), (0, .ref p0), (1, .int p1)]) → W p l e rmX11_ruleOf s m args below meth c H locs 0 0 Q (F0 m 144 ls []) := by
              intro H locs ls  hT hS hl 
              refine lv_iconst (v := (0 : Int32)) hx hb dX11_ruleOf_144 (by decide) ?_
              refine lv_istore (lv' := [(5, .int (0 : Int32)), (4, .int x2), (3, .int x3), (2, .int x4), (0, .ref p0), (1, .int p1)]) hx hb dX11_ruleOf_145 hl (by decide) rfl (fun ls hl => ?_)
              have L147 : ∀ (nn : Nat) (H : Heap) (locs : List Loc) (ls : Array Slot) (x10 : Int32), (nn = (2147483647 - x10.toInt).toNat) → (TW D cy κ G H) → (va_S (AA κ) s.heap H locs) → (lv_has ls 8 [(5, .int x10), (4, .int x2), (3, .int x3), (2, .int x4), (0, .ref p0), (1, .int p1)]) → (0 ≤ x10.toInt ∧ x10.toInt ≤ 4) → W p l e rmX11_ruleOf s m args below meth c H locs 0 0 Q (F0 m 147 ls []) := by
                intro nn
                induction nn using Nat.strongRecOn with
                | _ nn ih147 =>
                  intro H locs ls x10 hnn hT hS hl fL147_0
                  refine lv_iload hx hb dX11_ruleOf_147 (lv_at hl 0 rfl) ?_
                  refine lv_iconst (v := (4 : Int32)) hx hb dX11_ruleOf_149 (by decide) ?_
                  refine tb_icmp_ge (tgt := 219) hx hb dX11_ruleOf_150 (by decide) (fun c11 => ?_) (fun c11 => ?_)
                  · skip
                    refine lv_iconst (v := (0 : Int32)) hx hb dX11_ruleOf_219 (by decide) ?_
                    exact hret H locs ls 220 (0 : Int32) G dX11_ruleOf_220 ⟨rfl, trivial⟩ hT hS
                  · skip
                    refine lv_iconst (v := (0 : Int32)) hx hb dX11_ruleOf_153 (by decide) ?_
                    refine lv_istore (lv' := [(6, .int (0 : Int32)), (5, .int x10), (4, .int x2), (3, .int x3), (2, .int x4), (0, .ref p0), (1, .int p1)]) hx hb dX11_ruleOf_154 hl (by decide) rfl (fun ls hl => ?_)
                    refine lv_iconst (v := (0 : Int32)) hx hb dX11_ruleOf_156 (by decide) ?_
                    refine lv_istore (lv' := [(7, .int (0 : Int32)), (6, .int (0 : Int32)), (5, .int x10), (4, .int x2), (3, .int x3), (2, .int x4), (0, .ref p0), (1, .int p1)]) hx hb dX11_ruleOf_157 hl (by decide) rfl (fun ls hl => ?_)
                    have L159 : ∀ (nn : Nat) (H : Heap) (locs : List Loc) (ls : Array Slot) (x12 : Int32) (x13 : Int32), (nn = (2147483647 - x12.toInt).toNat) → (TW D cy κ G H) → (va_S (AA κ) s.heap H locs) → (lv_has ls 8 [(7, .int x12), (6, .int x13), (5, .int x10), (4, .int x2), (3, .int x3), (2, .int x4), (0, .ref p0), (1, .int p1)]) → (0 ≤ x12.toInt ∧ x12.toInt ≤ 12) → W p l e rmX11_ruleOf s m args below meth c H locs 0 0 Q (F0 m 159 ls []) := by
                      intro nn
                      induction nn using Nat.strongRecOn with
                      | _ nn ih159 =>
                        intro H locs ls x12 x13 hnn hT hS hl fL159_0
                        refine lv_iload hx hb dX11_ruleOf_159 (lv_at hl 0 rfl) ?_
                        refine lv_aload_n hx hb dX11_ruleOf_161 rfl (lv_at hl 6 rfl) ?_
                        refine gf_11_13 hx hb hts hin11 hown hK hT k0 hfl35 dX11_ruleOf_162 (fun a14 ka14 fva14 => ?_)
                        refine lv_iload_n hx hb dX11_ruleOf_165 rfl (lv_at hl 7 rfl) ?_
                        refine tw_ia (K := 50) (n := 5) (P := fun x => x = G.1 (100 + p1.toInt.toNat) ∧ (0 ≤ x.toInt ∧ x.toInt ≤ 12) ∧ ((G.1 3).toInt = 0 → x.toInt = 0)) hx hb hK hT ka14 (by decide) rfl rfl (by omega) rfl dX11_ruleOf_166 (fun x15 kx15 fvx15 => ?_)
                        have kx15 : x15 = G.1 (100 + p1.toInt.toNat) ∧ (0 ≤ x15.toInt ∧ x15.toInt ≤ 12) ∧ ((G.1 3).toInt = 0 → x15.toInt = 0) := kx15
                        have gx15 := congrArg Int32.toInt kx15.1
                        have rx15 := kx15.2
                        refine tb_icmp_ge (tgt := 202) hx hb dX11_ruleOf_167 (by decide) (fun c16 => ?_) (fun c16 => ?_)
                        · skip
                          refine lv_iload hx hb dX11_ruleOf_202 (lv_at hl 1 rfl) ?_
                          refine lv_aload_n hx hb dX11_ruleOf_204 rfl (lv_at hl 6 rfl) ?_
                          refine gf_11_5 hx hb hts hin11 hown hK hT k0 hfl200 dX11_ruleOf_205 (fun x17 kx17 fvx17 => ?_)
                          refine tb_icmp_ge (tgt := 213) hx hb dX11_ruleOf_208 (by decide) (fun c18 => ?_) (fun c18 => ?_)
                          · skip
                            obtain ⟨x19, ex19⟩ : ∃ z : Int32, z = x10 + (1 : Int32) := ⟨_, rfl⟩
                            refine lv_iinc (v := x19) (lv' := [(5, .int x19), (7, .int x12), (6, .int x13), (4, .int x2), (3, .int x3), (2, .int x4), (0, .ref p0), (1, .int p1)]) hx hb dX11_ruleOf_213 hl (k := 2) rfl (by rw [ex19]; rfl) (by decide) rfl (fun ls hl => ?_)
                            have tx19 : x19.toInt = x10.toInt + 1 := by rw [ex19, ti_add (by have := i32b x10; have := i32b x12; have := i32b x13; have := i32b x2; have := i32b x3; have := i32b x4; have := i32b p1; omega), hc1]
                            refine lv_goto (tgt := 147) hx hb dX11_ruleOf_216 (by decide) ?_
                            exact ih147 ((2147483647 - x19.toInt).toNat) (by have := i32b x19; have := i32b x12; have := i32b x13; have := i32b x2; have := i32b x3; have := i32b x4; have := i32b p1; omega) H locs ls x19 rfl hT hS (lv_sub hl [0, 3, 4, 5, 6, 7] rfl) (by omega)
                          · skip
                            refine lv_iconst (v := (3 : Int32)) hx hb dX11_ruleOf_211 (by decide) ?_
                            exact hret H locs ls 212 (3 : Int32) G dX11_ruleOf_212 ⟨rfl, trivial⟩ hT hS
                        · skip
                          refine lv_iload hx hb dX11_ruleOf_170 (lv_at hl 1 rfl) ?_
                          refine lv_aload_n hx hb dX11_ruleOf_172 rfl (lv_at hl 6 rfl) ?_
                          refine gf_11_15 hx hb hts hin11 hown hK hT k0 hfl41 dX11_ruleOf_173 (fun a20 ka20 fva20 => ?_)
                          refine lv_iload_n hx hb dX11_ruleOf_176 rfl (lv_at hl 7 rfl) ?_
                          refine lv_iload hx hb dX11_ruleOf_177 (lv_at hl 0 rfl) ?_
                          refine tw_Si (As := [.int p1, .int x12]) (rest := [.ref a20, .int x13]) ⟨hx, hb, hml, hown, hts⟩ (c_X11_spot l D cy κ G p1 (by omega) x12 (by omega)) (va_cwS 2 hts gX11_ruleOf_X11_spot rfl rfl rfl (by decide +kernel) ⟨Nat.le_of_ble_eq_true rfl, Nat.le_of_ble_eq_true rfl⟩) hK hT hS rfl hl.1 rfl (Nat.le_of_ble_eq_true rfl) dX11_ruleOf_179 ⟨Nat.zero_le _, Nat.zero_le _⟩ (fun x21 u22 H locs hpu22 hT hS => ?_)
                          obtain ⟨huu22, qu22⟩ := hpu22
                          rw [huu22] at hT
                          refine tw_ia (K := 1060) (n := 60) (P := fun _ => True) hx hb hK hT ka20 (by decide) rfl rfl (by omega) rfl dX11_ruleOf_182 (fun x23 _ fvx23 => ?_)
                          refine lv_iload hx hb dX11_ruleOf_183 (lv_at hl 2 rfl) ?_
                          have J193 : ∀ (H : Heap) (locs : List Loc) (ls : Array Slot) (x24 : Int32), (TW D cy κ G H) → (va_S (AA κ) s.heap H locs) → (lv_has ls 8 [(7, .int x12), (6, .int x13), (5, .int x10), (4, .int x2), (3, .int x3), (2, .int x4), (0, .ref p0), (1, .int p1)]) → (0 ≤ x24.toInt ∧ x24.toInt ≤ 1) → W p l e rmX11_ruleOf s m args below meth c H locs 0 0 Q (F0 m 193 ls [.int x24, .int x13]) := by
                            intro H locs ls x24 hT hS hl fJ193_0
                            refine lv_iadd hx hb dX11_ruleOf_193 ?_
                            refine lv_topi (fun x25 ex25 => ?_)
                            have tx25 : x25.toInt = (x13 + x24).toInt := by rw [ex25]
                            refine lv_istore (lv' := [(6, .int x25), (7, .int x12), (5, .int x10), (4, .int x2), (3, .int x3), (2, .int x4), (0, .ref p0), (1, .int p1)]) hx hb dX11_ruleOf_194 hl (by decide) rfl (fun ls hl => ?_)
                            obtain ⟨x26, ex26⟩ : ∃ z : Int32, z = x12 + (1 : Int32) := ⟨_, rfl⟩
                            refine lv_iinc (v := x26) (lv' := [(7, .int x26), (6, .int x25), (5, .int x10), (4, .int x2), (3, .int x3), (2, .int x4), (0, .ref p0), (1, .int p1)]) hx hb dX11_ruleOf_196 hl (k := 1) rfl (by rw [ex26]; rfl) (by decide) rfl (fun ls hl => ?_)
                            have tx26 : x26.toInt = x12.toInt + 1 := by rw [ex26, ti_add (by have := i32b x12; have := i32b x25; have := i32b x10; have := i32b x2; have := i32b x3; have := i32b x4; have := i32b p1; omega), hc1]
                            refine lv_goto (tgt := 159) hx hb dX11_ruleOf_199 (by decide) ?_
                            exact ih159 ((2147483647 - x26.toInt).toNat) (by have := i32b x26; have := i32b x25; have := i32b x10; have := i32b x2; have := i32b x3; have := i32b x4; have := i32b p1; omega) H locs ls x26 x25 rfl hT hS (lv_sub hl [0, 1, 2, 3, 4, 5, 6, 7] rfl) (by omega)
                          refine tb_icmp_ne (tgt := 192) hx hb dX11_ruleOf_185 (by decide) (fun c27 => ?_) (fun c27 => ?_)
                          · skip
                            refine lv_iconst (v := (0 : Int32)) hx hb dX11_ruleOf_192 (by decide) ?_
                            exact J193 H locs ls (0 : Int32) hT hS (lv_sub hl [0, 1, 2, 3, 4, 5, 6, 7] rfl) (by omega)
                          · skip
                            refine lv_iconst (v := (1 : Int32)) hx hb dX11_ruleOf_188 (by decide) ?_
                            refine lv_goto (tgt := 193) hx hb dX11_ruleOf_189 (by decide) ?_
                            exact J193 H locs ls (1 : Int32) hT hS (lv_sub hl [0, 1, 2, 3, 4, 5, 6, 7] rfl) (by omega)
                    exact L159 _ H locs ls (0 : Int32) (0 : Int32) rfl hT hS (lv_sub hl [0, 1, 2, 3, 4, 5, 6, 7] rfl) (by omega)
              exact L147 _ H locs ls (0 : Int32) rfl hT hS (lv_sub hl [0, 1, 2, 3, 4, 5] rfl) (by omega)
            refine tb_icmp_ne (tgt := 144) hx hb dX11_ruleOf_134 (by decide) (fun c28 => ?_) (fun c28 => ?_)
            · skip
              exact J144 H locs ls  hT hS (lv_sub hl [0, 1, 2, 3, 4, 5] rfl) 
            · skip
              refine lv_iload hx hb dX11_ruleOf_137 (lv_at hl 1 rfl) ?_
              refine tb_if_ne (tgt := 144) hx hb dX11_ruleOf_139 (by decide) (fun c29 => ?_) (fun c29 => ?_)
              · skip
                exact J144 H locs ls  hT hS (lv_sub hl [0, 1, 2, 3, 4, 5] rfl) 
              · skip
                refine lv_iconst (v := (2 : Int32)) hx hb dX11_ruleOf_142 (by decide) ?_
                exact hret H locs ls 143 (2 : Int32) G dX11_ruleOf_143 ⟨rfl, trivial⟩ hT hS
          · skip
            refine lv_iconst (v := (1 : Int32)) hx hb dX11_ruleOf_127 (by decide) ?_
            exact hret H locs ls 128 (1 : Int32) G dX11_ruleOf_128 ⟨rfl, trivial⟩ hT hS
        · skip
          refine lv_aload_n hx hb dX11_ruleOf_21 rfl (lv_at hl 4 rfl) ?_
          refine gf_11_15 hx hb hts hin11 hown hK hT k0 hfl41 dX11_ruleOf_22 (fun a30 ka30 fva30 => ?_)
          refine lv_iload_n hx hb dX11_ruleOf_25 rfl (lv_at hl 5 rfl) ?_
          refine lv_iload hx hb dX11_ruleOf_26 (lv_at hl 0 rfl) ?_
          refine tw_Si (As := [.int p1, .int x1]) (rest := [.ref a30]) ⟨hx, hb, hml, hown, hts⟩ (c_X11_spot l D cy κ G p1 (by omega) x1 (by omega)) (va_cwS 2 hts gX11_ruleOf_X11_spot rfl rfl rfl (by decide +kernel) ⟨Nat.le_of_ble_eq_true rfl, Nat.le_of_ble_eq_true rfl⟩) hK hT hS rfl hl.1 rfl (Nat.le_of_ble_eq_true rfl) dX11_ruleOf_28 ⟨Nat.zero_le _, Nat.zero_le _⟩ (fun x31 u32 H locs hpu32 hT hS => ?_)
          obtain ⟨huu32, qu32⟩ := hpu32
          rw [huu32] at hT
          refine tw_ia (K := 1060) (n := 60) (P := fun _ => True) hx hb hK hT ka30 (by decide) rfl rfl (by omega) rfl dX11_ruleOf_31 (fun x33 _ fvx33 => ?_)
          refine lv_istore (lv' := [(6, .int x33), (5, .int x1), (4, .int x2), (3, .int x3), (2, .int x4), (0, .ref p0), (1, .int p1)]) hx hb dX11_ruleOf_32 hl (by decide) rfl (fun ls hl => ?_)
          refine lv_iload hx hb dX11_ruleOf_34 (lv_at hl 1 rfl) ?_
          have J56 : ∀ (H : Heap) (locs : List Loc) (ls : Array Slot) (x34 : Int32), (TW D cy κ G H) → (va_S (AA κ) s.heap H locs) → (lv_has ls 8 [(6, .int x33), (5, .int x1), (4, .int x2), (3, .int x3), (2, .int x4), (0, .ref p0), (1, .int p1)]) → W p l e rmX11_ruleOf s m args below meth c H locs 0 0 Q (F0 m 56 ls [.int x34]) := by
            intro H locs ls x34 hT hS hl 
            refine lv_istore (lv' := [(7, .int x34), (6, .int x33), (5, .int x1), (4, .int x2), (3, .int x3), (2, .int x4), (0, .ref p0), (1, .int p1)]) hx hb dX11_ruleOf_56 hl (by decide) rfl (fun ls hl => ?_)
            refine lv_iload hx hb dX11_ruleOf_58 (lv_at hl 1 rfl) ?_
            refine lv_iload hx hb dX11_ruleOf_60 (lv_at hl 0 rfl) ?_
            have J72 : ∀ (H : Heap) (locs : List Loc) (ls : Array Slot) (x35 : Int32), (TW D cy κ G H) → (va_S (AA κ) s.heap H locs) → (lv_has ls 8 [(7, .int x34), (6, .int x33), (5, .int x1), (4, .int x2), (3, .int x3), (2, .int x4), (0, .ref p0), (1, .int p1)]) → W p l e rmX11_ruleOf s m args below meth c H locs 0 0 Q (F0 m 72 ls [.int x35]) := by
              intro H locs ls x35 hT hS hl 
              refine lv_istore_n (lv' := [(2, .int x35), (7, .int x34), (6, .int x33), (5, .int x1), (4, .int x2), (3, .int x3), (0, .ref p0), (1, .int p1)]) hx hb dX11_ruleOf_72 rfl hl (by decide) rfl (fun ls hl => ?_)
              refine lv_iload_n hx hb dX11_ruleOf_73 rfl (lv_at hl 5 rfl) ?_
              have J90 : ∀ (H : Heap) (locs : List Loc) (ls : Array Slot) (x36 : Int32), (TW D cy κ G H) → (va_S (AA κ) s.heap H locs) → (lv_has ls 8 [(2, .int x35), (7, .int x34), (6, .int x33), (5, .int x1), (4, .int x2), (3, .int x3), (0, .ref p0), (1, .int p1)]) → (0 ≤ x36.toInt ∧ x36.toInt ≤ 1) → W p l e rmX11_ruleOf s m args below meth c H locs 0 0 Q (F0 m 90 ls [.int x36]) := by
                intro H locs ls x36 hT hS hl fJ90_0
                refine lv_istore_n (lv' := [(3, .int x36), (2, .int x35), (7, .int x34), (6, .int x33), (5, .int x1), (4, .int x2), (0, .ref p0), (1, .int p1)]) hx hb dX11_ruleOf_90 rfl hl (by decide) rfl (fun ls hl => ?_)
                refine lv_iload hx hb dX11_ruleOf_91 (lv_at hl 5 rfl) ?_
                have J115 : ∀ (H : Heap) (locs : List Loc) (ls : Array Slot) (x37 : Int32), (TW D cy κ G H) → (va_S (AA κ) s.heap H locs) → (lv_has ls 8 [(3, .int x36), (2, .int x35), (7, .int x34), (6, .int x33), (5, .int x1), (4, .int x2), (0, .ref p0), (1, .int p1)]) → (0 ≤ x37.toInt ∧ x37.toInt ≤ 1) → W p l e rmX11_ruleOf s m args below meth c H locs 0 0 Q (F0 m 115 ls [.int x37]) := by
                  intro H locs ls x37 hT hS hl fJ115_0
                  refine lv_istore (lv' := [(4, .int x37), (3, .int x36), (2, .int x35), (7, .int x34), (6, .int x33), (5, .int x1), (0, .ref p0), (1, .int p1)]) hx hb dX11_ruleOf_115 hl (by decide) rfl (fun ls hl => ?_)
                  obtain ⟨x38, ex38⟩ : ∃ z : Int32, z = x1 + (1 : Int32) := ⟨_, rfl⟩
                  refine lv_iinc (v := x38) (lv' := [(5, .int x38), (4, .int x37), (3, .int x36), (2, .int x35), (7, .int x34), (6, .int x33), (0, .ref p0), (1, .int p1)]) hx hb dX11_ruleOf_117 hl (k := 5) rfl (by rw [ex38]; rfl) (by decide) rfl (fun ls hl => ?_)
                  have tx38 : x38.toInt = x1.toInt + 1 := by rw [ex38, ti_add (by have := i32b x1; have := i32b x37; have := i32b x36; have := i32b x35; have := i32b x34; have := i32b x33; have := i32b p1; omega), hc1]
                  refine lv_goto (tgt := 10) hx hb dX11_ruleOf_120 (by decide) ?_
                  exact ih10 ((2147483647 - x38.toInt).toNat) (by have := i32b x38; have := i32b x37; have := i32b x36; have := i32b x35; have := i32b x34; have := i32b x33; have := i32b p1; omega) H locs ls x38 x37 x36 x35 rfl hT hS (lv_sub hl [0, 1, 2, 3, 6, 7] rfl) (by omega) (by omega) (by omega)
                have J114 : ∀ (H : Heap) (locs : List Loc) (ls : Array Slot) , (TW D cy κ G H) → (va_S (AA κ) s.heap H locs) → (lv_has ls 8 [(3, .int x36), (2, .int x35), (7, .int x34), (6, .int x33), (5, .int x1), (4, .int x2), (0, .ref p0), (1, .int p1)]) → W p l e rmX11_ruleOf s m args below meth c H locs 0 0 Q (F0 m 114 ls []) := by
                  intro H locs ls  hT hS hl 
                  refine lv_iconst (v := (0 : Int32)) hx hb dX11_ruleOf_114 (by decide) ?_
                  exact J115 H locs ls (0 : Int32) hT hS (lv_sub hl [0, 1, 2, 3, 4, 5, 6, 7] rfl) (by omega)
                refine tb_if_eq (tgt := 114) hx hb dX11_ruleOf_93 (by decide) (fun c39 => ?_) (fun c39 => ?_)
                · skip
                  exact J114 H locs ls  hT hS (lv_sub hl [0, 1, 2, 3, 4, 5, 6, 7] rfl) 
                · skip
                  refine lv_iload hx hb dX11_ruleOf_96 (lv_at hl 2 rfl) ?_
                  have J110 : ∀ (H : Heap) (locs : List Loc) (ls : Array Slot) , (TW D cy κ G H) → (va_S (AA κ) s.heap H locs) → (lv_has ls 8 [(3, .int x36), (2, .int x35), (7, .int x34), (6, .int x33), (5, .int x1), (4, .int x2), (0, .ref p0), (1, .int p1)]) → W p l e rmX11_ruleOf s m args below meth c H locs 0 0 Q (F0 m 110 ls []) := by
                    intro H locs ls  hT hS hl 
                    refine lv_iconst (v := (1 : Int32)) hx hb dX11_ruleOf_110 (by decide) ?_
                    refine lv_goto (tgt := 115) hx hb dX11_ruleOf_111 (by decide) ?_
                    exact J115 H locs ls (1 : Int32) hT hS (lv_sub hl [0, 1, 2, 3, 4, 5, 6, 7] rfl) (by omega)
                  refine tb_if_lt (tgt := 110) hx hb dX11_ruleOf_98 (by decide) (fun c40 => ?_) (fun c40 => ?_)
                  · skip
                    exact J110 H locs ls  hT hS (lv_sub hl [0, 1, 2, 3, 4, 5, 6, 7] rfl) 
                  · skip
                    refine lv_iload hx hb dX11_ruleOf_101 (lv_at hl 2 rfl) ?_
                    refine lv_iload hx hb dX11_ruleOf_103 (lv_at hl 3 rfl) ?_
                    refine lv_iadd hx hb dX11_ruleOf_105 ?_
                    refine lv_topi (fun x41 ex41 => ?_)
                    have tx41 : x41.toInt = (x34 + x33).toInt := by rw [ex41]
                    refine lv_iconst (v := (1 : Int32)) hx hb dX11_ruleOf_106 (by decide) ?_
                    refine tb_icmp_eq (tgt := 114) hx hb dX11_ruleOf_107 (by decide) (fun c42 => ?_) (fun c42 => ?_)
                    · skip
                      exact J114 H locs ls  hT hS (lv_sub hl [0, 1, 2, 3, 4, 5, 6, 7] rfl) 
                    · skip
                      exact J110 H locs ls  hT hS (lv_sub hl [0, 1, 2, 3, 4, 5, 6, 7] rfl) 
              have J89 : ∀ (H : Heap) (locs : List Loc) (ls : Array Slot) , (TW D cy κ G H) → (va_S (AA κ) s.heap H locs) → (lv_has ls 8 [(2, .int x35), (7, .int x34), (6, .int x33), (5, .int x1), (4, .int x2), (3, .int x3), (0, .ref p0), (1, .int p1)]) → W p l e rmX11_ruleOf s m args below meth c H locs 0 0 Q (F0 m 89 ls []) := by
                intro H locs ls  hT hS hl 
                refine lv_iconst (v := (0 : Int32)) hx hb dX11_ruleOf_89 (by decide) ?_
                exact J90 H locs ls (0 : Int32) hT hS (lv_sub hl [0, 1, 2, 3, 4, 5, 6, 7] rfl) (by omega)
              refine tb_if_eq (tgt := 89) hx hb dX11_ruleOf_74 (by decide) (fun c43 => ?_) (fun c43 => ?_)
              · skip
                exact J89 H locs ls  hT hS (lv_sub hl [0, 1, 2, 3, 4, 5, 6, 7] rfl) 
              · skip
                refine lv_iload_n hx hb dX11_ruleOf_77 rfl (lv_at hl 0 rfl) ?_
                refine lv_aload_n hx hb dX11_ruleOf_78 rfl (lv_at hl 6 rfl) ?_
                refine gf_11_3 hx hb hts hin11 hown hK hT k0 hfl9 dX11_ruleOf_79 (fun x44 kx44 fvx44 => ?_)
                refine tb_icmp_gt (tgt := 89) hx hb dX11_ruleOf_82 (by decide) (fun c45 => ?_) (fun c45 => ?_)
                · skip
                  exact J89 H locs ls  hT hS (lv_sub hl [0, 1, 2, 3, 4, 5, 6, 7] rfl) 
                · skip
                  refine lv_iconst (v := (1 : Int32)) hx hb dX11_ruleOf_85 (by decide) ?_
                  refine lv_goto (tgt := 90) hx hb dX11_ruleOf_86 (by decide) ?_
                  exact J90 H locs ls (1 : Int32) hT hS (lv_sub hl [0, 1, 2, 3, 4, 5, 6, 7] rfl) (by omega)
            refine tb_icmp_ne (tgt := 71) hx hb dX11_ruleOf_62 (by decide) (fun c46 => ?_) (fun c46 => ?_)
            · skip
              refine lv_iconst (v := (1 : Int32)) hx hb dX11_ruleOf_71 (by decide) ?_
              exact J72 H locs ls (1 : Int32) hT hS (lv_sub hl [0, 1, 2, 3, 4, 5, 6, 7] rfl) 
            · skip
              refine lv_iload_n hx hb dX11_ruleOf_65 rfl (lv_at hl 5 rfl) ?_
              refine lv_iconst (v := (1 : Int32)) hx hb dX11_ruleOf_66 (by decide) ?_
              refine lv_iadd hx hb dX11_ruleOf_67 ?_
              refine lv_topi (fun x47 ex47 => ?_)
              have tx47 : x47.toInt = (x4 + (1 : Int32)).toInt := by rw [ex47]
              refine lv_goto (tgt := 72) hx hb dX11_ruleOf_68 (by decide) ?_
              exact J72 H locs ls x47 hT hS (lv_sub hl [0, 1, 2, 3, 4, 5, 6, 7] rfl) 
          refine tb_if_le (tgt := 55) hx hb dX11_ruleOf_36 (by decide) (fun c48 => ?_) (fun c48 => ?_)
          · skip
            refine lv_iconst (v := (-1 : Int32)) hx hb dX11_ruleOf_55 (by decide) ?_
            exact J56 H locs ls (-1 : Int32) hT hS (lv_sub hl [0, 1, 2, 3, 4, 5, 6] rfl) 
          · skip
            refine lv_aload_n hx hb dX11_ruleOf_39 rfl (lv_at hl 5 rfl) ?_
            refine gf_11_15 hx hb hts hin11 hown hK hT k0 hfl41 dX11_ruleOf_40 (fun a49 ka49 fva49 => ?_)
            refine lv_iload_n hx hb dX11_ruleOf_43 rfl (lv_at hl 6 rfl) ?_
            refine lv_iload hx hb dX11_ruleOf_44 (lv_at hl 1 rfl) ?_
            refine lv_iconst (v := (1 : Int32)) hx hb dX11_ruleOf_46 (by decide) ?_
            refine lv_isub hx hb dX11_ruleOf_47 ?_
            refine lv_topi (fun x50 ex50 => ?_)
            have tx50 : x50.toInt = x1.toInt - (1 : Int32).toInt := by rw [ex50]; exact ti_sub (by have := i32b x1; have := i32b (1 : Int32); omega)
            refine tw_Si (As := [.int p1, .int x50]) (rest := [.ref a49]) ⟨hx, hb, hml, hown, hts⟩ (c_X11_spot l D cy κ G p1 (by omega) x50 (by omega)) (va_cwS 2 hts gX11_ruleOf_X11_spot rfl rfl rfl (by decide +kernel) ⟨Nat.le_of_ble_eq_true rfl, Nat.le_of_ble_eq_true rfl⟩) hK hT hS rfl hl.1 rfl (Nat.le_of_ble_eq_true rfl) dX11_ruleOf_48 ⟨Nat.zero_le _, Nat.zero_le _⟩ (fun x51 u52 H locs hpu52 hT hS => ?_)
            obtain ⟨huu52, qu52⟩ := hpu52
            rw [huu52] at hT
            refine tw_ia (K := 1060) (n := 60) (P := fun _ => True) hx hb hK hT ka49 (by decide) rfl rfl (by omega) rfl dX11_ruleOf_51 (fun x53 _ fvx53 => ?_)
            refine lv_goto (tgt := 56) hx hb dX11_ruleOf_52 (by decide) ?_
            exact J56 H locs ls x53 hT hS (lv_sub hl [0, 1, 2, 3, 4, 5, 6] rfl) 
    exact L10 _ H locs ls (0 : Int32) (1 : Int32) (1 : Int32) (0 : Int32) rfl hT hS (lv_sub hl [0, 1, 2, 3, 4, 5] rfl) (by omega) (by omega) (by omega)
  exact main s.heap [] hT va_S.rf

abbrev rmX11_rule : Room := { frames := 2, cells := 0, slots := 0, locals := 48 }
set_option maxHeartbeats 4000000 in
set_option maxRecDepth 100000 in
theorem c_X11_rule (l : Launch) (D : va_G) (cy : Nat → ClassId) (κ : Nat → Nat) (G : Gh) (p0 : Nat) (k0 : κ p0 = 12) (p1 : Int32) : Met l yX11_rule wsX11_rule rmX11_rule (va_Pc [.ref p0, .int p1] (fun U => WW D cy κ G U)) (va_Qi (fun (r : Int32) (u : Gh) => u = G ∧ (True)) (fun u t => WW D cy κ u t) (AA κ)) 0 0 (AA κ) := by
  refine Met.twi (cc := cX11_rule) (maxL := 2) (by decide) rfl (Nat.le_of_ble_eq_true rfl) ?_
  intro p e s m args below meth c Q hx hb hml hown hts hK hT hret ls hl
  have hl : lv_has ls 2 [(0, .ref p0), (1, .int p1)] := hl
  have hcm1 : (-1 : Int32).toInt = -1 := rfl
  have main : ∀ (H : Heap) (locs : List Loc), TW D cy κ G H → va_S (AA κ) s.heap H locs → W p l e rmX11_rule s m args below meth c H locs 0 0 Q (F0 m 0 ls []) := by
    intro H locs hT hS
    refine lv_aload_n hx hb dX11_rule_0 rfl (lv_at hl 0 rfl) ?_
    refine lv_iload_n hx hb dX11_rule_1 rfl (lv_at hl 1 rfl) ?_
    refine tw_Vi (q := (RX11, TX11, 31)) (As := [.int p1]) (rest := []) ⟨hx, hb, hml, hown, hts⟩ (c_X11_isPlate l D cy κ G p0 k0 p1) (cwV 1 hts gX11_rule_X11_isPlate rfl rfl rfl (by decide +kernel) ⟨Nat.le_of_ble_eq_true rfl, Nat.le_of_ble_eq_true rfl⟩) hK hT hS k0 (by decide) rfl rfl hl.1 rfl (Nat.le_of_ble_eq_true rfl) dX11_rule_2 ⟨Nat.zero_le _, Nat.zero_le _⟩ (fun x1 u2 H locs hpu2 hT hS => ?_)
    obtain ⟨huu2, qu2⟩ := hpu2
    rw [huu2] at hT
    refine tb_if_eq (tgt := 16) hx hb dX11_rule_5 (by decide) (fun c3 => ?_) (fun c3 => ?_)
    · skip
      refine lv_iconst (v := (-1 : Int32)) hx hb dX11_rule_16 (by decide) ?_
      exact hret H locs ls 17 (-1 : Int32) G dX11_rule_17 ⟨rfl, trivial⟩ hT hS
    · skip
      refine lv_aload_n hx hb dX11_rule_8 rfl (lv_at hl 0 rfl) ?_
      refine lv_iload_n hx hb dX11_rule_9 rfl (lv_at hl 1 rfl) ?_
      refine tw_Vi (q := (RX11, TX11, 31)) (As := [.int p1]) (rest := []) ⟨hx, hb, hml, hown, hts⟩ (c_X11_ruleOf l D cy κ G p0 k0 p1 (by omega)) (cwV 1 hts gX11_rule_X11_ruleOf rfl rfl rfl (by decide +kernel) ⟨Nat.le_of_ble_eq_true rfl, Nat.le_of_ble_eq_true rfl⟩) hK hT hS k0 (by decide) rfl rfl hl.1 rfl (Nat.le_of_ble_eq_true rfl) dX11_rule_10 ⟨Nat.zero_le _, Nat.zero_le _⟩ (fun x4 u5 H locs hpu5 hT hS => ?_)
      obtain ⟨huu5, qu5⟩ := hpu5
      rw [huu5] at hT
      refine lv_goto (tgt := 17) hx hb dX11_rule_13 (by decide) ?_
      exact hret H locs ls 17 x4 G dX11_rule_17 ⟨rfl, trivial⟩ hT hS
  exact main s.heap [] hT va_S.rf

abbrev rmX11_dropOf : Room := { frames := 1, cells := 0, slots := 0, locals := 22 }
set_option maxHeartbeats 4000000 in
set_option maxRecDepth 100000 in
theorem c_X11_dropOf (l : Launch) (D : va_G) (cy : Nat → ClassId) (κ : Nat → Nat) (G : Gh) (p0 : Nat) (k0 : κ p0 = 12) (p1 : Int32) (q1 : 0 ≤ p1.toInt ∧ p1.toInt ≤ 4) (p2 : Int32) (q2 : 0 ≤ p2.toInt ∧ p2.toInt ≤ 4) : Met l yX11_dropOf wsX11_dropOf rmX11_dropOf (va_Pc [.ref p0, .int p1, .int p2] (fun U => WW D cy κ G U)) (va_Qi (fun (r : Int32) (u : Gh) => u = G ∧ (True)) (fun u t => WW D cy κ u t) (AA κ)) 0 0 (AA κ) := by
  refine Met.twi (cc := cX11_dropOf) (maxL := 6) (by decide) rfl (Nat.le_of_ble_eq_true rfl) ?_
  intro p e s m args below meth c Q hx hb hml hown hts hK hT hret ls hl
  have hl : lv_has ls 6 [(0, .ref p0), (1, .int p1), (2, .int p2)] := hl
  have hc0 : (0 : Int32).toInt = 0 := rfl
  have hfl35 := hts (.fieldLink RX11 35 "PlyPlatesModel" "many" "[I") (by decide +kernel)
  have hin11 : ∀ w ∈ u_ws RX11 TX11 31, w ∈ wsX11_dropOf := by decide +kernel
  have hcm1 : (-1 : Int32).toInt = -1 := rfl
  have hc1 : (1 : Int32).toInt = 1 := rfl
  have main : ∀ (H : Heap) (locs : List Loc), TW D cy κ G H → va_S (AA κ) s.heap H locs → W p l e rmX11_dropOf s m args below meth c H locs 0 0 Q (F0 m 0 ls []) := by
    intro H locs hT hS
    refine lv_iconst (v := (0 : Int32)) hx hb dX11_dropOf_0 (by decide) ?_
    refine lv_istore_n (lv' := [(3, .int (0 : Int32)), (0, .ref p0), (1, .int p1), (2, .int p2)]) hx hb dX11_dropOf_1 rfl hl (by decide) rfl (fun ls hl => ?_)
    refine lv_iconst (v := (0 : Int32)) hx hb dX11_dropOf_2 (by decide) ?_
    refine lv_istore (lv' := [(4, .int (0 : Int32)), (3, .int (0 : Int32)), (0, .ref p0), (1, .int p1), (2, .int p2)]) hx hb dX11_dropOf_3 hl (by decide) rfl (fun ls hl => ?_)
    refine lv_iconst (v := (0 : Int32)) hx hb dX11_dropOf_5 (by decide) ?_
    refine lv_istore (lv' := [(5, .int (0 : Int32)), (4, .int (0 : Int32)), (3, .int (0 : Int32)), (0, .ref p0), (1, .int p1), (2, .int p2)]) hx hb dX11_dropOf_6 hl (by decide) rfl (fun ls hl => ?_)
    have L8 : ∀ (nn : Nat) (H : Heap) (locs : List Loc) (ls : Array Slot) (x1 : Int32) (x2 : Int32) (x3 : Int32), (nn = (2147483647 - x1.toInt).toNat) → (TW D cy κ G H) → (va_S (AA κ) s.heap H locs) → (lv_has ls 6 [(5, .int x1), (4, .int x2), (3, .int x3), (0, .ref p0), (1, .int p1), (2, .int p2)]) → (0 ≤ x1.toInt ∧ x1.toInt ≤ 12) → (0 ≤ x2.toInt ∧ x2.toInt ≤ 12) → W p l e rmX11_dropOf s m args below meth c H locs 0 0 Q (F0 m 8 ls []) := by
      intro nn
      induction nn using Nat.strongRecOn with
      | _ nn ih8 =>
        intro H locs ls x1 x2 x3 hnn hT hS hl fL8_0 fL8_1
        refine lv_iload hx hb dX11_dropOf_8 (lv_at hl 0 rfl) ?_
        refine lv_aload_n hx hb dX11_dropOf_10 rfl (lv_at hl 3 rfl) ?_
        refine gf_11_13 hx hb hts hin11 hown hK hT k0 hfl35 dX11_dropOf_11 (fun a4 ka4 fva4 => ?_)
        refine lv_iload_n hx hb dX11_dropOf_14 rfl (lv_at hl 4 rfl) ?_
        refine tw_ia (K := 50) (n := 5) (P := fun x => x = G.1 (100 + p1.toInt.toNat) ∧ (0 ≤ x.toInt ∧ x.toInt ≤ 12) ∧ ((G.1 3).toInt = 0 → x.toInt = 0)) hx hb hK hT ka4 (by decide) rfl rfl (by omega) rfl dX11_dropOf_15 (fun x5 kx5 fvx5 => ?_)
        have kx5 : x5 = G.1 (100 + p1.toInt.toNat) ∧ (0 ≤ x5.toInt ∧ x5.toInt ≤ 12) ∧ ((G.1 3).toInt = 0 → x5.toInt = 0) := kx5
        have gx5 := congrArg Int32.toInt kx5.1
        have rx5 := kx5.2
        refine tb_icmp_ge (tgt := 68) hx hb dX11_dropOf_16 (by decide) (fun c6 => ?_) (fun c6 => ?_)
        · skip
          refine lv_iload hx hb dX11_dropOf_68 (lv_at hl 1 rfl) ?_
          refine lv_aload_n hx hb dX11_dropOf_70 rfl (lv_at hl 3 rfl) ?_
          refine gf_11_13 hx hb hts hin11 hown hK hT k0 hfl35 dX11_dropOf_71 (fun a7 ka7 fva7 => ?_)
          obtain rfl : a4 = a7 := eRef (FV.eq fva4 fva7)
          refine lv_iload_n hx hb dX11_dropOf_74 rfl (lv_at hl 5 rfl) ?_
          refine tw_ia (K := 50) (n := 5) (P := fun x => x = G.1 (100 + p2.toInt.toNat) ∧ (0 ≤ x.toInt ∧ x.toInt ≤ 12) ∧ ((G.1 3).toInt = 0 → x.toInt = 0)) hx hb hK hT ka4 (by decide) rfl rfl (by omega) rfl dX11_dropOf_75 (fun x8 kx8 fvx8 => ?_)
          have kx8 : x8 = G.1 (100 + p2.toInt.toNat) ∧ (0 ≤ x8.toInt ∧ x8.toInt ≤ 12) ∧ ((G.1 3).toInt = 0 → x8.toInt = 0) := kx8
          have gx8 := congrArg Int32.toInt kx8.1
          have rx8 := kx8.2
          refine tb_icmp_ne (tgt := 83) hx hb dX11_dropOf_76 (by decide) (fun c9 => ?_) (fun c9 => ?_)
          · skip
            refine lv_iconst (v := (-1 : Int32)) hx hb dX11_dropOf_83 (by decide) ?_
            exact hret H locs ls 84 (-1 : Int32) G dX11_dropOf_84 ⟨rfl, trivial⟩ hT hS
          · skip
            refine lv_iload_n hx hb dX11_dropOf_79 rfl (lv_at hl 2 rfl) ?_
            refine lv_goto (tgt := 84) hx hb dX11_dropOf_80 (by decide) ?_
            exact hret H locs ls 84 x3 G dX11_dropOf_84 ⟨rfl, trivial⟩ hT hS
        · skip
          refine lv_iload hx hb dX11_dropOf_19 (lv_at hl 1 rfl) ?_
          refine lv_aload_n hx hb dX11_dropOf_21 rfl (lv_at hl 3 rfl) ?_
          refine gf_11_13 hx hb hts hin11 hown hK hT k0 hfl35 dX11_dropOf_22 (fun a10 ka10 fva10 => ?_)
          obtain rfl : a4 = a10 := eRef (FV.eq fva4 fva10)
          refine lv_iload_n hx hb dX11_dropOf_25 rfl (lv_at hl 5 rfl) ?_
          refine tw_ia (K := 50) (n := 5) (P := fun x => x = G.1 (100 + p2.toInt.toNat) ∧ (0 ≤ x.toInt ∧ x.toInt ≤ 12) ∧ ((G.1 3).toInt = 0 → x.toInt = 0)) hx hb hK hT ka4 (by decide) rfl rfl (by omega) rfl dX11_dropOf_26 (fun x11 kx11 fvx11 => ?_)
          have kx11 : x11 = G.1 (100 + p2.toInt.toNat) ∧ (0 ≤ x11.toInt ∧ x11.toInt ≤ 12) ∧ ((G.1 3).toInt = 0 → x11.toInt = 0) := kx11
          have gx11 := congrArg Int32.toInt kx11.1
          have rx11 := kx11.2
          have J62 : ∀ (H : Heap) (locs : List Loc) (ls : Array Slot) (x12 : Int32) (x13 : Int32), (TW D cy κ G H) → (va_S (AA κ) s.heap H locs) → (lv_has ls 6 [(4, .int x12), (5, .int x1), (3, .int x13), (0, .ref p0), (1, .int p1), (2, .int p2)]) → (0 ≤ x12.toInt ∧ x12.toInt ≤ 12) → W p l e rmX11_dropOf s m args below meth c H locs 0 0 Q (F0 m 62 ls []) := by
            intro H locs ls x12 x13 hT hS hl fJ62_0
            obtain ⟨x14, ex14⟩ : ∃ z : Int32, z = x1 + (1 : Int32) := ⟨_, rfl⟩
            refine lv_iinc (v := x14) (lv' := [(5, .int x14), (4, .int x12), (3, .int x13), (0, .ref p0), (1, .int p1), (2, .int p2)]) hx hb dX11_dropOf_62 hl (k := 1) rfl (by rw [ex14]; rfl) (by decide) rfl (fun ls hl => ?_)
            have tx14 : x14.toInt = x1.toInt + 1 := by rw [ex14, ti_add (by have := i32b x1; have := i32b x12; have := i32b x13; have := i32b p1; have := i32b p2; omega), hc1]
            refine lv_goto (tgt := 8) hx hb dX11_dropOf_65 (by decide) ?_
            exact ih8 ((2147483647 - x14.toInt).toNat) (by have := i32b x14; have := i32b x12; have := i32b x13; have := i32b p1; have := i32b p2; omega) H locs ls x14 x12 x13 rfl hT hS (lv_sub hl [0, 1, 2, 3, 4, 5] rfl) (by omega) (by omega)
          have J55 : ∀ (H : Heap) (locs : List Loc) (ls : Array Slot) , (TW D cy κ G H) → (va_S (AA κ) s.heap H locs) → (lv_has ls 6 [(5, .int x1), (4, .int x2), (3, .int x3), (0, .ref p0), (1, .int p1), (2, .int p2)]) → W p l e rmX11_dropOf s m args below meth c H locs 0 0 Q (F0 m 55 ls []) := by
            intro H locs ls  hT hS hl 
            refine lv_iload_n hx hb dX11_dropOf_55 rfl (lv_at hl 2 rfl) ?_
            refine lv_iconst (v := (1 : Int32)) hx hb dX11_dropOf_56 (by decide) ?_
            refine lv_iload hx hb dX11_dropOf_57 (lv_at hl 0 rfl) ?_
            refine lv_ishl hx hb dX11_dropOf_59 ?_
            refine lv_topi (fun x15 _ => ?_)
            refine lv_ior hx hb dX11_dropOf_60 ?_
            refine lv_topi (fun x16 ex16 => ?_)
            refine lv_istore_n (lv' := [(3, .int x16), (5, .int x1), (4, .int x2), (0, .ref p0), (1, .int p1), (2, .int p2)]) hx hb dX11_dropOf_61 rfl hl (by decide) rfl (fun ls hl => ?_)
            exact J62 H locs ls x2 x16 hT hS (lv_sub hl [2, 1, 0, 3, 4, 5] rfl) (by omega)
          refine tb_icmp_ge (tgt := 55) hx hb dX11_dropOf_27 (by decide) (fun c17 => ?_) (fun c17 => ?_)
          · skip
            exact J55 H locs ls  hT hS (lv_sub hl [0, 1, 2, 3, 4, 5] rfl) 
          · skip
            refine lv_aload_n hx hb dX11_dropOf_30 rfl (lv_at hl 3 rfl) ?_
            refine lv_iload_n hx hb dX11_dropOf_31 rfl (lv_at hl 4 rfl) ?_
            refine lv_iload hx hb dX11_dropOf_32 (lv_at hl 0 rfl) ?_
            refine tw_Si (As := [.int p1, .int x1]) (rest := [.ref p0]) ⟨hx, hb, hml, hown, hts⟩ (c_X11_spot l D cy κ G p1 (by omega) x1 (by omega)) (va_cwS 2 hts gX11_dropOf_X11_spot rfl rfl rfl (by decide +kernel) ⟨Nat.le_of_ble_eq_true rfl, Nat.le_of_ble_eq_true rfl⟩) hK hT hS rfl hl.1 rfl (Nat.le_of_ble_eq_true rfl) dX11_dropOf_34 ⟨Nat.zero_le _, Nat.zero_le _⟩ (fun x18 u19 H locs hpu19 hT hS => ?_)
            obtain ⟨huu19, qu19⟩ := hpu19
            rw [huu19] at hT
            refine lv_iload_n hx hb dX11_dropOf_37 rfl (lv_at hl 5 rfl) ?_
            refine lv_iload hx hb dX11_dropOf_38 (lv_at hl 1 rfl) ?_
            refine tw_Si (As := [.int p2, .int x2]) (rest := [.int x18, .ref p0]) ⟨hx, hb, hml, hown, hts⟩ (c_X11_spot l D cy κ G p2 (by omega) x2 (by omega)) (va_cwS 2 hts gX11_dropOf_X11_spot rfl rfl rfl (by decide +kernel) ⟨Nat.le_of_ble_eq_true rfl, Nat.le_of_ble_eq_true rfl⟩) hK hT hS rfl hl.1 rfl (Nat.le_of_ble_eq_true rfl) dX11_dropOf_40 ⟨Nat.zero_le _, Nat.zero_le _⟩ (fun x20 u21 H locs hpu21 hT hS => ?_)
            obtain ⟨huu21, qu21⟩ := hpu21
            rw [huu21] at hT
            refine tw_Vi (q := (RX11, TX11, 31)) (As := [.int x18, .int x20]) (rest := []) ⟨hx, hb, hml, hown, hts⟩ (c_X11_isAlike l D cy κ G p0 k0 x18 (by omega) x20 (by omega)) (cwV 2 hts gX11_dropOf_X11_isAlike rfl rfl rfl (by decide +kernel) ⟨Nat.le_of_ble_eq_true rfl, Nat.le_of_ble_eq_true rfl⟩) hK hT hS k0 (by decide) rfl rfl hl.1 rfl (Nat.le_of_ble_eq_true rfl) dX11_dropOf_43 ⟨Nat.zero_le _, Nat.zero_le _⟩ (fun x22 u23 H locs hpu23 hT hS => ?_)
            obtain ⟨huu23, qu23⟩ := hpu23
            rw [huu23] at hT
            refine tb_if_eq (tgt := 55) hx hb dX11_dropOf_46 (by decide) (fun c24 => ?_) (fun c24 => ?_)
            · skip
              exact J55 H locs ls  hT hS (lv_sub hl [0, 1, 2, 3, 4, 5] rfl) 
            · skip
              obtain ⟨x25, ex25⟩ : ∃ z : Int32, z = x2 + (1 : Int32) := ⟨_, rfl⟩
              refine lv_iinc (v := x25) (lv' := [(4, .int x25), (5, .int x1), (3, .int x3), (0, .ref p0), (1, .int p1), (2, .int p2)]) hx hb dX11_dropOf_49 hl (k := 1) rfl (by rw [ex25]; rfl) (by decide) rfl (fun ls hl => ?_)
              have tx25 : x25.toInt = x2.toInt + 1 := by rw [ex25, ti_add (by have := i32b x2; have := i32b x1; have := i32b x3; have := i32b p1; have := i32b p2; omega), hc1]
              refine lv_goto (tgt := 62) hx hb dX11_dropOf_52 (by decide) ?_
              exact J62 H locs ls x25 x3 hT hS (lv_sub hl [0, 1, 2, 3, 4, 5] rfl) (by omega)
    exact L8 _ H locs ls (0 : Int32) (0 : Int32) (0 : Int32) rfl hT hS (lv_sub hl [0, 1, 2, 3, 4, 5] rfl) (by omega) (by omega)
  exact main s.heap [] hT va_S.rf

abbrev rmX11_comes : Room := { frames := 2, cells := 0, slots := 0, locals := 47 }
set_option maxHeartbeats 4000000 in
set_option maxRecDepth 100000 in
theorem c_X11_comes (l : Launch) (D : va_G) (cy : Nat → ClassId) (κ : Nat → Nat) (G : Gh) (p0 : Nat) (k0 : κ p0 = 12) (p1 : Int32) (p2 : Int32) : Met l yX11_comes wsX11_comes rmX11_comes (va_Pc [.ref p0, .int p1, .int p2] (fun U => WW D cy κ G U)) (va_Qi (fun (r : Int32) (u : Gh) => u = G ∧ (True)) (fun u t => WW D cy κ u t) (AA κ)) 0 0 (AA κ) := by
  refine Met.twi (cc := cX11_comes) (maxL := 3) (by decide) rfl (Nat.le_of_ble_eq_true rfl) ?_
  intro p e s m args below meth c Q hx hb hml hown hts hK hT hret ls hl
  have hl : lv_has ls 3 [(0, .ref p0), (1, .int p1), (2, .int p2)] := hl
  have hcm1 : (-1 : Int32).toInt = -1 := rfl
  have hc1 : (1 : Int32).toInt = 1 := rfl
  have hc0 : (0 : Int32).toInt = 0 := rfl
  have main : ∀ (H : Heap) (locs : List Loc), TW D cy κ G H → va_S (AA κ) s.heap H locs → W p l e rmX11_comes s m args below meth c H locs 0 0 Q (F0 m 0 ls []) := by
    intro H locs hT hS
    refine lv_aload_n hx hb dX11_comes_0 rfl (lv_at hl 0 rfl) ?_
    refine lv_iload_n hx hb dX11_comes_1 rfl (lv_at hl 1 rfl) ?_
    refine tw_Vi (q := (RX11, TX11, 31)) (As := [.int p1]) (rest := []) ⟨hx, hb, hml, hown, hts⟩ (c_X11_isPlate l D cy κ G p0 k0 p1) (cwV 1 hts gX11_comes_X11_isPlate rfl rfl rfl (by decide +kernel) ⟨Nat.le_of_ble_eq_true rfl, Nat.le_of_ble_eq_true rfl⟩) hK hT hS k0 (by decide) rfl rfl hl.1 rfl (Nat.le_of_ble_eq_true rfl) dX11_comes_2 ⟨Nat.zero_le _, Nat.zero_le _⟩ (fun x1 u2 H locs hpu2 hT hS => ?_)
    obtain ⟨huu2, qu2⟩ := hpu2
    rw [huu2] at hT
    refine tb_if_eq (tgt := 16) hx hb dX11_comes_5 (by decide) (fun c3 => ?_) (fun c3 => ?_)
    · skip
      refine lv_iconst (v := (-1 : Int32)) hx hb dX11_comes_16 (by decide) ?_
      exact hret H locs ls 17 (-1 : Int32) G dX11_comes_17 ⟨rfl, trivial⟩ hT hS
    · skip
      refine lv_aload_n hx hb dX11_comes_8 rfl (lv_at hl 0 rfl) ?_
      refine lv_iload_n hx hb dX11_comes_9 rfl (lv_at hl 2 rfl) ?_
      refine tw_Vi (q := (RX11, TX11, 31)) (As := [.int p2]) (rest := []) ⟨hx, hb, hml, hown, hts⟩ (c_X11_isPlate l D cy κ G p0 k0 p2) (cwV 1 hts gX11_comes_X11_isPlate rfl rfl rfl (by decide +kernel) ⟨Nat.le_of_ble_eq_true rfl, Nat.le_of_ble_eq_true rfl⟩) hK hT hS k0 (by decide) rfl rfl hl.1 rfl (Nat.le_of_ble_eq_true rfl) dX11_comes_10 ⟨Nat.zero_le _, Nat.zero_le _⟩ (fun x4 u5 H locs hpu5 hT hS => ?_)
      obtain ⟨huu5, qu5⟩ := hpu5
      rw [huu5] at hT
      refine tb_if_ne (tgt := 18) hx hb dX11_comes_13 (by decide) (fun c6 => ?_) (fun c6 => ?_)
      · skip
        refine lv_aload_n hx hb dX11_comes_18 rfl (lv_at hl 0 rfl) ?_
        refine lv_iload_n hx hb dX11_comes_19 rfl (lv_at hl 1 rfl) ?_
        refine lv_iload_n hx hb dX11_comes_20 rfl (lv_at hl 2 rfl) ?_
        refine tw_Vi (q := (RX11, TX11, 31)) (As := [.int p1, .int p2]) (rest := []) ⟨hx, hb, hml, hown, hts⟩ (c_X11_dropOf l D cy κ G p0 k0 p1 (by omega) p2 (by omega)) (cwV 2 hts gX11_comes_X11_dropOf rfl rfl rfl (by decide +kernel) ⟨Nat.le_of_ble_eq_true rfl, Nat.le_of_ble_eq_true rfl⟩) hK hT hS k0 (by decide) rfl rfl hl.1 rfl (Nat.le_of_ble_eq_true rfl) dX11_comes_21 ⟨Nat.zero_le _, Nat.zero_le _⟩ (fun x7 u8 H locs hpu8 hT hS => ?_)
        obtain ⟨huu8, qu8⟩ := hpu8
        rw [huu8] at hT
        refine lv_iconst (v := (-1 : Int32)) hx hb dX11_comes_24 (by decide) ?_
        refine tb_icmp_ne (tgt := 32) hx hb dX11_comes_25 (by decide) (fun c9 => ?_) (fun c9 => ?_)
        · skip
          refine lv_iconst (v := (1 : Int32)) hx hb dX11_comes_32 (by decide) ?_
          exact hret H locs ls 33 (1 : Int32) G dX11_comes_33 ⟨rfl, trivial⟩ hT hS
        · skip
          refine lv_iconst (v := (0 : Int32)) hx hb dX11_comes_28 (by decide) ?_
          refine lv_goto (tgt := 33) hx hb dX11_comes_29 (by decide) ?_
          exact hret H locs ls 33 (0 : Int32) G dX11_comes_33 ⟨rfl, trivial⟩ hT hS
      · skip
        refine lv_iconst (v := (-1 : Int32)) hx hb dX11_comes_16 (by decide) ?_
        exact hret H locs ls 17 (-1 : Int32) G dX11_comes_17 ⟨rfl, trivial⟩ hT hS
  exact main s.heap [] hT va_S.rf

abbrev rmX11_drop : Room := { frames := 2, cells := 0, slots := 0, locals := 47 }
set_option maxHeartbeats 4000000 in
set_option maxRecDepth 100000 in
theorem c_X11_drop (l : Launch) (D : va_G) (cy : Nat → ClassId) (κ : Nat → Nat) (G : Gh) (p0 : Nat) (k0 : κ p0 = 12) (p1 : Int32) (p2 : Int32) : Met l yX11_drop wsX11_drop rmX11_drop (va_Pc [.ref p0, .int p1, .int p2] (fun U => WW D cy κ G U)) (va_Qi (fun (r : Int32) (u : Gh) => u = G ∧ (True)) (fun u t => WW D cy κ u t) (AA κ)) 0 0 (AA κ) := by
  refine Met.twi (cc := cX11_drop) (maxL := 3) (by decide) rfl (Nat.le_of_ble_eq_true rfl) ?_
  intro p e s m args below meth c Q hx hb hml hown hts hK hT hret ls hl
  have hl : lv_has ls 3 [(0, .ref p0), (1, .int p1), (2, .int p2)] := hl
  have hcm1 : (-1 : Int32).toInt = -1 := rfl
  have main : ∀ (H : Heap) (locs : List Loc), TW D cy κ G H → va_S (AA κ) s.heap H locs → W p l e rmX11_drop s m args below meth c H locs 0 0 Q (F0 m 0 ls []) := by
    intro H locs hT hS
    refine lv_aload_n hx hb dX11_drop_0 rfl (lv_at hl 0 rfl) ?_
    refine lv_iload_n hx hb dX11_drop_1 rfl (lv_at hl 1 rfl) ?_
    refine tw_Vi (q := (RX11, TX11, 31)) (As := [.int p1]) (rest := []) ⟨hx, hb, hml, hown, hts⟩ (c_X11_isPlate l D cy κ G p0 k0 p1) (cwV 1 hts gX11_drop_X11_isPlate rfl rfl rfl (by decide +kernel) ⟨Nat.le_of_ble_eq_true rfl, Nat.le_of_ble_eq_true rfl⟩) hK hT hS k0 (by decide) rfl rfl hl.1 rfl (Nat.le_of_ble_eq_true rfl) dX11_drop_2 ⟨Nat.zero_le _, Nat.zero_le _⟩ (fun x1 u2 H locs hpu2 hT hS => ?_)
    obtain ⟨huu2, qu2⟩ := hpu2
    rw [huu2] at hT
    refine tb_if_eq (tgt := 25) hx hb dX11_drop_5 (by decide) (fun c3 => ?_) (fun c3 => ?_)
    · skip
      refine lv_iconst (v := (-1 : Int32)) hx hb dX11_drop_25 (by decide) ?_
      exact hret H locs ls 26 (-1 : Int32) G dX11_drop_26 ⟨rfl, trivial⟩ hT hS
    · skip
      refine lv_aload_n hx hb dX11_drop_8 rfl (lv_at hl 0 rfl) ?_
      refine lv_iload_n hx hb dX11_drop_9 rfl (lv_at hl 2 rfl) ?_
      refine tw_Vi (q := (RX11, TX11, 31)) (As := [.int p2]) (rest := []) ⟨hx, hb, hml, hown, hts⟩ (c_X11_isPlate l D cy κ G p0 k0 p2) (cwV 1 hts gX11_drop_X11_isPlate rfl rfl rfl (by decide +kernel) ⟨Nat.le_of_ble_eq_true rfl, Nat.le_of_ble_eq_true rfl⟩) hK hT hS k0 (by decide) rfl rfl hl.1 rfl (Nat.le_of_ble_eq_true rfl) dX11_drop_10 ⟨Nat.zero_le _, Nat.zero_le _⟩ (fun x4 u5 H locs hpu5 hT hS => ?_)
      obtain ⟨huu5, qu5⟩ := hpu5
      rw [huu5] at hT
      refine tb_if_eq (tgt := 25) hx hb dX11_drop_13 (by decide) (fun c6 => ?_) (fun c6 => ?_)
      · skip
        refine lv_iconst (v := (-1 : Int32)) hx hb dX11_drop_25 (by decide) ?_
        exact hret H locs ls 26 (-1 : Int32) G dX11_drop_26 ⟨rfl, trivial⟩ hT hS
      · skip
        refine lv_aload_n hx hb dX11_drop_16 rfl (lv_at hl 0 rfl) ?_
        refine lv_iload_n hx hb dX11_drop_17 rfl (lv_at hl 1 rfl) ?_
        refine lv_iload_n hx hb dX11_drop_18 rfl (lv_at hl 2 rfl) ?_
        refine tw_Vi (q := (RX11, TX11, 31)) (As := [.int p1, .int p2]) (rest := []) ⟨hx, hb, hml, hown, hts⟩ (c_X11_dropOf l D cy κ G p0 k0 p1 (by omega) p2 (by omega)) (cwV 2 hts gX11_drop_X11_dropOf rfl rfl rfl (by decide +kernel) ⟨Nat.le_of_ble_eq_true rfl, Nat.le_of_ble_eq_true rfl⟩) hK hT hS k0 (by decide) rfl rfl hl.1 rfl (Nat.le_of_ble_eq_true rfl) dX11_drop_19 ⟨Nat.zero_le _, Nat.zero_le _⟩ (fun x7 u8 H locs hpu8 hT hS => ?_)
        obtain ⟨huu8, qu8⟩ := hpu8
        rw [huu8] at hT
        refine lv_goto (tgt := 26) hx hb dX11_drop_22 (by decide) ?_
        exact hret H locs ls 26 x7 G dX11_drop_26 ⟨rfl, trivial⟩ hT hS
  exact main s.heap [] hT va_S.rf

abbrev rmX11_count : Room := { frames := 2, cells := 0, slots := 0, locals := 44 }
set_option maxHeartbeats 4000000 in
set_option maxRecDepth 100000 in
theorem c_X11_count (l : Launch) (D : va_G) (cy : Nat → ClassId) (κ : Nat → Nat) (G : Gh) (p0 : Nat) (k0 : κ p0 = 12) (p1 : Int32) : Met l yX11_count wsX11_count rmX11_count (va_Pc [.ref p0, .int p1] (fun U => WW D cy κ G U)) (va_Qi (fun (r : Int32) (u : Gh) => u = G ∧ (True)) (fun u t => WW D cy κ u t) (AA κ)) 0 0 (AA κ) := by
  refine Met.twi (cc := cX11_count) (maxL := 2) (by decide) rfl (Nat.le_of_ble_eq_true rfl) ?_
  intro p e s m args below meth c Q hx hb hml hown hts hK hT hret ls hl
  have hl : lv_has ls 2 [(0, .ref p0), (1, .int p1)] := hl
  have hc1 : (1 : Int32).toInt = 1 := rfl
  have hc2 : (2 : Int32).toInt = 2 := rfl
  have hc10 : (10 : Int32).toInt = 10 := rfl
  have hc20 : (20 : Int32).toInt = 20 := rfl
  have hcm1 : (-1 : Int32).toInt = -1 := rfl
  have hfl35 := hts (.fieldLink RX11 35 "PlyPlatesModel" "many" "[I") (by decide +kernel)
  have hin11 : ∀ w ∈ u_ws RX11 TX11 31, w ∈ wsX11_count := by decide +kernel
  have hfl206 := hts (.fieldLink RX11 206 "PlyPlatesModel" "cases" "I") (by decide +kernel)
  have hfl76 := hts (.fieldLink RX11 76 "PlyPlatesModel" "plates" "I") (by decide +kernel)
  have hfl73 := hts (.fieldLink RX11 73 "PlyPlatesModel" "stuffs" "I") (by decide +kernel)
  have main : ∀ (H : Heap) (locs : List Loc), TW D cy κ G H → va_S (AA κ) s.heap H locs → W p l e rmX11_count s m args below meth c H locs 0 0 Q (F0 m 0 ls []) := by
    intro H locs hT hS
    refine lv_iload_n hx hb dX11_count_0 rfl (lv_at hl 1 rfl) ?_
    refine tb_if_ne (tgt := 9) hx hb dX11_count_1 (by decide) (fun c1 => ?_) (fun c1 => ?_)
    · skip
      refine lv_iload_n hx hb dX11_count_9 rfl (lv_at hl 1 rfl) ?_
      refine lv_iconst (v := (1 : Int32)) hx hb dX11_count_10 (by decide) ?_
      refine tb_icmp_ne (tgt := 19) hx hb dX11_count_11 (by decide) (fun c2 => ?_) (fun c2 => ?_)
      · skip
        refine lv_iload_n hx hb dX11_count_19 rfl (lv_at hl 1 rfl) ?_
        refine lv_iconst (v := (2 : Int32)) hx hb dX11_count_20 (by decide) ?_
        refine tb_icmp_ne (tgt := 29) hx hb dX11_count_21 (by decide) (fun c3 => ?_) (fun c3 => ?_)
        · skip
          refine lv_aload_n hx hb dX11_count_29 rfl (lv_at hl 0 rfl) ?_
          refine lv_iload_n hx hb dX11_count_30 rfl (lv_at hl 1 rfl) ?_
          refine lv_bipush (v := (10 : Int32)) hx hb dX11_count_31 (by decide) ?_
          refine lv_isub hx hb dX11_count_33 ?_
          refine lv_topi (fun x4 ex4 => ?_)
          have tx4 : x4.toInt = (p1 - (10 : Int32)).toInt := by rw [ex4]
          refine tw_Vi (q := (RX11, TX11, 31)) (As := [.int x4]) (rest := []) ⟨hx, hb, hml, hown, hts⟩ (c_X11_isPlate l D cy κ G p0 k0 x4) (cwV 1 hts gX11_count_X11_isPlate rfl rfl rfl (by decide +kernel) ⟨Nat.le_of_ble_eq_true rfl, Nat.le_of_ble_eq_true rfl⟩) hK hT hS k0 (by decide) rfl rfl hl.1 rfl (Nat.le_of_ble_eq_true rfl) dX11_count_34 ⟨Nat.zero_le _, Nat.zero_le _⟩ (fun x5 u6 H locs hpu6 hT hS => ?_)
          obtain ⟨huu6, qu6⟩ := hpu6
          rw [huu6] at hT
          refine tb_if_eq (tgt := 50) hx hb dX11_count_37 (by decide) (fun c7 => ?_) (fun c7 => ?_)
          · skip
            refine lv_aload_n hx hb dX11_count_50 rfl (lv_at hl 0 rfl) ?_
            refine lv_iload_n hx hb dX11_count_51 rfl (lv_at hl 1 rfl) ?_
            refine lv_bipush (v := (20 : Int32)) hx hb dX11_count_52 (by decide) ?_
            refine lv_isub hx hb dX11_count_54 ?_
            refine lv_topi (fun x8 ex8 => ?_)
            have tx8 : x8.toInt = (p1 - (20 : Int32)).toInt := by rw [ex8]
            refine tw_Vi (q := (RX11, TX11, 31)) (As := [.int x8]) (rest := []) ⟨hx, hb, hml, hown, hts⟩ (c_X11_isPlate l D cy κ G p0 k0 x8) (cwV 1 hts gX11_count_X11_isPlate rfl rfl rfl (by decide +kernel) ⟨Nat.le_of_ble_eq_true rfl, Nat.le_of_ble_eq_true rfl⟩) hK hT hS k0 (by decide) rfl rfl hl.1 rfl (Nat.le_of_ble_eq_true rfl) dX11_count_55 ⟨Nat.zero_le _, Nat.zero_le _⟩ (fun x9 u10 H locs hpu10 hT hS => ?_)
            obtain ⟨huu10, qu10⟩ := hpu10
            rw [huu10] at hT
            refine tb_if_eq (tgt := 72) hx hb dX11_count_58 (by decide) (fun c11 => ?_) (fun c11 => ?_)
            · skip
              refine lv_iconst (v := (-1 : Int32)) hx hb dX11_count_72 (by decide) ?_
              exact hret H locs ls 73 (-1 : Int32) G dX11_count_73 ⟨rfl, trivial⟩ hT hS
            · skip
              refine lv_aload_n hx hb dX11_count_61 rfl (lv_at hl 0 rfl) ?_
              refine lv_iload_n hx hb dX11_count_62 rfl (lv_at hl 1 rfl) ?_
              refine lv_bipush (v := (20 : Int32)) hx hb dX11_count_63 (by decide) ?_
              refine lv_isub hx hb dX11_count_65 ?_
              refine lv_topi (fun x12 ex12 => ?_)
              have tx12 : x12.toInt = (p1 - (20 : Int32)).toInt := by rw [ex12]
              refine tw_Vi (q := (RX11, TX11, 31)) (As := [.int x12]) (rest := []) ⟨hx, hb, hml, hown, hts⟩ (c_X11_height l D cy κ G p0 k0 x12 (by omega)) (cwV 1 hts gX11_count_X11_height rfl rfl rfl (by decide +kernel) ⟨Nat.le_of_ble_eq_true rfl, Nat.le_of_ble_eq_true rfl⟩) hK hT hS k0 (by decide) rfl rfl hl.1 rfl (Nat.le_of_ble_eq_true rfl) dX11_count_66 ⟨Nat.zero_le _, Nat.zero_le _⟩ (fun x13 u14 H locs hpu14 hT hS => ?_)
              obtain ⟨huu14, qu14⟩ := hpu14
              rw [huu14] at hT
              refine lv_goto (tgt := 73) hx hb dX11_count_69 (by decide) ?_
              exact hret H locs ls 73 x13 G dX11_count_73 ⟨rfl, trivial⟩ hT hS
          · skip
            refine lv_aload_n hx hb dX11_count_40 rfl (lv_at hl 0 rfl) ?_
            refine gf_11_13 hx hb hts hin11 hown hK hT k0 hfl35 dX11_count_41 (fun a15 ka15 fva15 => ?_)
            refine lv_iload_n hx hb dX11_count_44 rfl (lv_at hl 1 rfl) ?_
            refine lv_bipush (v := (10 : Int32)) hx hb dX11_count_45 (by decide) ?_
            refine lv_isub hx hb dX11_count_47 ?_
            refine lv_topi (fun x16 ex16 => ?_)
            have tx16 : x16.toInt = (p1 - (10 : Int32)).toInt := by rw [ex16]
            refine tw_ia (K := 50) (n := 5) (P := fun x => x = G.1 (100 + x16.toInt.toNat) ∧ (0 ≤ x.toInt ∧ x.toInt ≤ 12) ∧ ((G.1 3).toInt = 0 → x.toInt = 0)) hx hb hK hT ka15 (by decide) rfl rfl (by omega) rfl dX11_count_48 (fun x17 kx17 fvx17 => ?_)
            have kx17 : x17 = G.1 (100 + x16.toInt.toNat) ∧ (0 ≤ x17.toInt ∧ x17.toInt ≤ 12) ∧ ((G.1 3).toInt = 0 → x17.toInt = 0) := kx17
            have gx17 := congrArg Int32.toInt kx17.1
            have rx17 := kx17.2
            exact hret H locs ls 49 x17 G dX11_count_49 ⟨rfl, trivial⟩ hT hS
        · skip
          refine lv_aload_n hx hb dX11_count_24 rfl (lv_at hl 0 rfl) ?_
          refine gf_11_2 hx hb hts hin11 hown hK hT k0 hfl206 dX11_count_25 (fun x18 kx18 fvx18 => ?_)
          have gx18 := congrArg Int32.toInt kx18.1
          exact hret H locs ls 28 x18 G dX11_count_28 ⟨rfl, trivial⟩ hT hS
      · skip
        refine lv_aload_n hx hb dX11_count_14 rfl (lv_at hl 0 rfl) ?_
        refine gf_11_1 hx hb hts hin11 hown hK hT k0 hfl76 dX11_count_15 (fun x19 kx19 fvx19 => ?_)
        have gx19 := congrArg Int32.toInt kx19.1
        exact hret H locs ls 18 x19 G dX11_count_18 ⟨rfl, trivial⟩ hT hS
    · skip
      refine lv_aload_n hx hb dX11_count_4 rfl (lv_at hl 0 rfl) ?_
      refine gf_11_0 hx hb hts hin11 hown hK hT k0 hfl73 dX11_count_5 (fun x20 kx20 fvx20 => ?_)
      have gx20 := congrArg Int32.toInt kx20.1
      exact hret H locs ls 8 x20 G dX11_count_8 ⟨rfl, trivial⟩ hT hS
  exact main s.heap [] hT va_S.rf

abbrev rmX11_step : Room := { frames := 1, cells := 0, slots := 0, locals := 22 }
set_option maxHeartbeats 4000000 in
set_option maxRecDepth 100000 in
theorem c_X11_step (l : Launch) (D : va_G) (cy : Nat → ClassId) (κ : Nat → Nat) (G : Gh) (p0 : Nat) (k0 : κ p0 = 12) (p1 : Int32) (p2 : Int32) : Met l yX11_step wsX11_step rmX11_step (va_Pc [.ref p0, .int p1, .int p2] (fun U => WW D cy κ G U)) (va_Ql (fun (r : Int64) (u : Gh) => u = G ∧ (True)) (fun u t => WW D cy κ u t) (AA κ)) 0 0 (AA κ) := by
  refine Met.twl (cc := cX11_step) (maxL := 3) (by decide) rfl (Nat.le_of_ble_eq_true rfl) ?_
  intro p e s m args below meth c Q hx hb hml hown hts hK hT hret ls hl
  have hl : lv_has ls 3 [(0, .ref p0), (1, .int p1), (2, .int p2)] := hl
  have hc0 : (0 : Int32).toInt = 0 := rfl
  have hfl194 := hts (.fieldLink RX11 194 "PlyPlatesModel" "steps" "I") (by decide +kernel)
  have hin11 : ∀ w ∈ u_ws RX11 TX11 31, w ∈ wsX11_step := by decide +kernel
  have hc1 : (1 : Int32).toInt = 1 := rfl
  have hkl112 := hts (.constantLong RX11 112 (-9223372036854775808)) (by decide +kernel)
  have hlk112 : (-9223372036854775808 : Int64).toInt = -9223372036854775808 := rfl
  have hc2 : (2 : Int32).toInt = 2 := rfl
  have hfl66 := hts (.fieldLink RX11 66 "PlyPlatesModel" "stepBelow" "[J") (by decide +kernel)
  have hfl62 := hts (.fieldLink RX11 62 "PlyPlatesModel" "stepAbove" "[J") (by decide +kernel)
  have hfl59 := hts (.fieldLink RX11 59 "PlyPlatesModel" "stepWhat" "[I") (by decide +kernel)
  have main : ∀ (H : Heap) (locs : List Loc), TW D cy κ G H → va_S (AA κ) s.heap H locs → W p l e rmX11_step s m args below meth c H locs 0 0 Q (F0 m 0 ls []) := by
    intro H locs hT hS
    refine lv_iload_n hx hb dX11_step_0 rfl (lv_at hl 1 rfl) ?_
    refine lv_iconst (v := (0 : Int32)) hx hb dX11_step_1 (by decide) ?_
    refine lv_aload_n hx hb dX11_step_2 rfl (lv_at hl 0 rfl) ?_
    refine gf_11_30 hx hb hts hin11 hown hK hT k0 hfl194 dX11_step_3 (fun x1 kx1 fvx1 => ?_)
    have gx1 := congrArg Int32.toInt kx1.1
    refine lv_iconst (v := (1 : Int32)) hx hb dX11_step_6 (by decide) ?_
    refine lv_isub hx hb dX11_step_7 ?_
    refine lv_topi (fun x2 ex2 => ?_)
    have tx2 : x2.toInt = x1.toInt - (1 : Int32).toInt := by rw [ex2]; exact ti_sub (by have := i32b x1; have := i32b (1 : Int32); omega)
    refine tw_Si (As := [.int p1, .int (0 : Int32), .int x2]) (rest := []) ⟨hx, hb, hml, hown, hts⟩ (c_X11_isIn l D cy κ G p1 (0 : Int32) x2) (va_cwS 3 hts gX11_step_X11_isIn rfl rfl rfl (by decide +kernel) ⟨Nat.le_of_ble_eq_true rfl, Nat.le_of_ble_eq_true rfl⟩) hK hT hS rfl hl.1 rfl (Nat.le_of_ble_eq_true rfl) dX11_step_8 ⟨Nat.zero_le _, Nat.zero_le _⟩ (fun x3 u4 H locs hpu4 hT hS => ?_)
    obtain ⟨huu4, qu4⟩ := hpu4
    rw [huu4] at hT
    refine tb_if_eq (tgt := 23) hx hb dX11_step_11 (by decide) (fun c5 => ?_) (fun c5 => ?_)
    · skip
      refine lv_ldc2 hx hb hown hkl112 dX11_step_23 ?_
      exact hret H locs ls 26 (-9223372036854775808 : Int64) G dX11_step_26 ⟨rfl, trivial⟩ hT hS
    · skip
      refine lv_iload_n hx hb dX11_step_14 rfl (lv_at hl 2 rfl) ?_
      refine lv_iconst (v := (0 : Int32)) hx hb dX11_step_15 (by decide) ?_
      refine lv_iconst (v := (2 : Int32)) hx hb dX11_step_16 (by decide) ?_
      refine tw_Si (As := [.int p2, .int (0 : Int32), .int (2 : Int32)]) (rest := []) ⟨hx, hb, hml, hown, hts⟩ (c_X11_isIn l D cy κ G p2 (0 : Int32) (2 : Int32)) (va_cwS 3 hts gX11_step_X11_isIn rfl rfl rfl (by decide +kernel) ⟨Nat.le_of_ble_eq_true rfl, Nat.le_of_ble_eq_true rfl⟩) hK hT hS rfl hl.1 rfl (Nat.le_of_ble_eq_true rfl) dX11_step_17 ⟨Nat.zero_le _, Nat.zero_le _⟩ (fun x6 u7 H locs hpu7 hT hS => ?_)
      obtain ⟨huu7, qu7⟩ := hpu7
      rw [huu7] at hT
      refine tb_if_ne (tgt := 27) hx hb dX11_step_20 (by decide) (fun c8 => ?_) (fun c8 => ?_)
      · skip
        refine lv_iload_n hx hb dX11_step_27 rfl (lv_at hl 2 rfl) ?_
        refine tb_if_ne (tgt := 41) hx hb dX11_step_28 (by decide) (fun c9 => ?_) (fun c9 => ?_)
        · skip
          refine lv_iload_n hx hb dX11_step_41 rfl (lv_at hl 2 rfl) ?_
          refine lv_iconst (v := (1 : Int32)) hx hb dX11_step_42 (by decide) ?_
          refine tb_icmp_ne (tgt := 55) hx hb dX11_step_43 (by decide) (fun c10 => ?_) (fun c10 => ?_)
          · skip
            refine lv_aload_n hx hb dX11_step_55 rfl (lv_at hl 0 rfl) ?_
            refine gf_11_29 hx hb hts hin11 hown hK hT k0 hfl66 dX11_step_56 (fun a11 ka11 fva11 => ?_)
            refine lv_iload_n hx hb dX11_step_59 rfl (lv_at hl 1 rfl) ?_
            refine tw_la (K := 54) (n := 30) (P := fun x => ((p1.toInt.toNat : Nat) : Int) < (G.1 8).toInt → x.toInt ≠ 0) hx hb hK hT ka11 (by decide) rfl rfl (by omega) rfl dX11_step_60 (fun y12 ky12 fvy12 => ?_)
            have ky12 : ((p1.toInt.toNat : Nat) : Int) < (G.1 8).toInt → y12.toInt ≠ 0 := ky12
            exact hret H locs ls 61 y12 G dX11_step_61 ⟨rfl, trivial⟩ hT hS
          · skip
            refine lv_aload_n hx hb dX11_step_46 rfl (lv_at hl 0 rfl) ?_
            refine gf_11_28 hx hb hts hin11 hown hK hT k0 hfl62 dX11_step_47 (fun a13 ka13 fva13 => ?_)
            refine lv_iload_n hx hb dX11_step_50 rfl (lv_at hl 1 rfl) ?_
            refine tw_la (K := 2030) (n := 30) (P := fun _ => True) hx hb hK hT ka13 (by decide) rfl rfl (by omega) rfl dX11_step_51 (fun y14 _ fvy14 => ?_)
            refine lv_goto (tgt := 61) hx hb dX11_step_52 (by decide) ?_
            exact hret H locs ls 61 y14 G dX11_step_61 ⟨rfl, trivial⟩ hT hS
        · skip
          refine lv_aload_n hx hb dX11_step_31 rfl (lv_at hl 0 rfl) ?_
          refine gf_11_27 hx hb hts hin11 hown hK hT k0 hfl59 dX11_step_32 (fun a15 ka15 fva15 => ?_)
          refine lv_iload_n hx hb dX11_step_35 rfl (lv_at hl 1 rfl) ?_
          refine tw_ia (K := 1030) (n := 30) (P := fun _ => True) hx hb hK hT ka15 (by decide) rfl rfl (by omega) rfl dX11_step_36 (fun x16 _ fvx16 => ?_)
          refine lv_i2l hx hb dX11_step_37 rfl ?_
          refine lv_topl (fun y17 ey17 => ?_)
          have ty17 : y17.toInt = x16.toInt := by rw [ey17]; exact Int32.toInt_toInt64 x16
          refine lv_goto (tgt := 61) hx hb dX11_step_38 (by decide) ?_
          exact hret H locs ls 61 y17 G dX11_step_61 ⟨rfl, trivial⟩ hT hS
      · skip
        refine lv_ldc2 hx hb hown hkl112 dX11_step_23 ?_
        exact hret H locs ls 26 (-9223372036854775808 : Int64) G dX11_step_26 ⟨rfl, trivial⟩ hT hS
  exact main s.heap [] hT va_S.rf
