abbrev rmX10_init : Room := { frames := 4, cells := 127, slots := 841, locals := 96 }
set_option maxHeartbeats 4000000 in
set_option maxRecDepth 100000 in
theorem c_X10_init (l : Launch) (D : va_G) (cy : Nat → ClassId) (κ0 : Nat → Nat) (sz h0 : Nat) (hk0 : κ0 h0 = 0) (hlt : h0 < sz) (hsg0 : ∀ b, κ0 b ≠ 11) (hsg2 : ∀ b, κ0 b ≠ 2)  : Met l yX10_init wsX10_init rmX10_init (va_Pc [.ref h0] (CP D cy κ0 sz h0 10 (fun k => defaultValue (tyX10 k)))) (va_Qv (fun κ' => COk κ0 sz h0 (10 + 1) κ') (fun κ' t => CQ D cy κ' t) (AC κ0 h0 sz)) 127 841 (AC κ0 h0 sz) := by
  refine Met.twc (cc := cX10_init) (maxL := 2) (by decide) rfl rfl (Nat.le_of_ble_eq_true rfl) hk0 hlt ?_
  intro p e s m args below meth c Q hx hb hml hown hts hname hK hN hC hret ls hl
  have hl : lv_has ls 2 [(0, .ref h0)] := hl
  have hoi1 := hts (.methodLink RX10 5 objectInit) (by decide +kernel)
  have hoi2 := hts (.instanceMethod objectInit) (by decide +kernel)
  have hoi3 := hts (.code objectInit ⟨#[0xb1]⟩ 1 none) (by decide +kernel)
  have hcl11 := hts (.classLink RX10 11 RX9) (by decide +kernel)
  have hin10 : ∀ w ∈ u_ws RX10 TX10 11, w ∈ wsX10_init := by decide +kernel
  have hfl13 := hts (.fieldLink RX10 13 "PlyPlates" "stuffs" "[LPlyPlates$Stuff;") (by decide +kernel)
  have hcl17 := hts (.classLink RX10 17 RX7) (by decide +kernel)
  have hfl19 := hts (.fieldLink RX10 19 "PlyPlates" "plates" "[LPlyPlates$Plate;") (by decide +kernel)
  have hin1 : ∀ w ∈ u_ws RX1 TX1 2, w ∈ wsX10_init := by decide +kernel
  have hcl23 := hts (.classLink RX10 23 RX1) (by decide +kernel)
  have his1 := hts (.instantiable RX1 2) (by decide +kernel)
  have hiniX1_init := hts (.initialized RX1) (by decide +kernel)
  have himX1_init := hts (.instanceMethod yX1_init) (by decide +kernel)
  have hfl26 := hts (.fieldLink RX10 26 "PlyPlates" "cases" "LPlyPlates$Cases;") (by decide +kernel)
  have hin4 : ∀ w ∈ u_ws RX4 TX4 3, w ∈ wsX10_init := by decide +kernel
  have hcl30 := hts (.classLink RX10 30 RX4) (by decide +kernel)
  have his4 := hts (.instantiable RX4 3) (by decide +kernel)
  have hiniX4_init := hts (.initialized RX4) (by decide +kernel)
  have himX4_init := hts (.instanceMethod yX4_init) (by decide +kernel)
  have hfl33 := hts (.fieldLink RX10 33 "PlyPlates" "layRules" "LPlyPlates$LayRules;") (by decide +kernel)
  have hin0 : ∀ w ∈ u_ws RX0 TX0 4, w ∈ wsX10_init := by decide +kernel
  have hcl37 := hts (.classLink RX10 37 RX0) (by decide +kernel)
  have his0 := hts (.instantiable RX0 4) (by decide +kernel)
  have hiniX0_init := hts (.initialized RX0) (by decide +kernel)
  have himX0_init := hts (.instanceMethod yX0_init) (by decide +kernel)
  have hfl40 := hts (.fieldLink RX10 40 "PlyPlates" "breakLog" "LPlyPlates$BreakLog;") (by decide +kernel)
  have hin7 : ∀ w ∈ u_ws RX7 TX7 2, w ∈ wsX10_init := by decide +kernel
  have his7 := hts (.instantiable RX7 2) (by decide +kernel)
  have hiniX7_init := hts (.initialized RX7) (by decide +kernel)
  have himX7_init := hts (.instanceMethod yX7_init) (by decide +kernel)
  have hml44 := hts (.methodLink RX10 44 yX7_init) (by decide +kernel)
  have hfl45 := hts (.fieldLink RX10 45 "PlyPlates" "breaking" "LPlyPlates$Plate;") (by decide +kernel)
  have hin3 : ∀ w ∈ u_ws RX3 TX3 2, w ∈ wsX10_init := by decide +kernel
  have hcl49 := hts (.classLink RX10 49 RX3) (by decide +kernel)
  have his3 := hts (.instantiable RX3 2) (by decide +kernel)
  have hiniX3_init := hts (.initialized RX3) (by decide +kernel)
  have himX3_init := hts (.instanceMethod yX3_init) (by decide +kernel)
  have hfl52 := hts (.fieldLink RX10 52 "PlyPlates" "fraction" "LPlyPlates$Fraction;") (by decide +kernel)
  have hfl56 := hts (.fieldLink RX10 56 "PlyPlates" "stuffCount" "I") (by decide +kernel)
  have hfl60 := hts (.fieldLink RX10 60 "PlyPlates" "plateCount" "I") (by decide +kernel)
  have hin9 : ∀ w ∈ u_ws RX9 TX9 7, w ∈ wsX10_init := by decide +kernel
  have his9 := hts (.instantiable RX9 7) (by decide +kernel)
  have hiniX9_init := hts (.initialized RX9) (by decide +kernel)
  have himX9_init := hts (.instanceMethod yX9_init) (by decide +kernel)
  have hin2 : ∀ w ∈ u_ws RX2 TX2 13, w ∈ wsX10_init := by decide +kernel
  have hcl64 := hts (.classLink RX10 64 RX2) (by decide +kernel)
  have his2 := hts (.instantiable RX2 13) (by decide +kernel)
  have hiniX2_init := hts (.initialized RX2) (by decide +kernel)
  have himX2_init := hts (.instanceMethod yX2_init) (by decide +kernel)
  have hml66 := hts (.methodLink RX10 66 yX2_init) (by decide +kernel)
  have hfl69 := hts (.fieldLink RX10 69 "PlyPlates" "flat" "LPlyPlates$Flat;") (by decide +kernel)
  have hin8 : ∀ w ∈ u_ws RX8 TX8 7, w ∈ wsX10_init := by decide +kernel
  have hcl73 := hts (.classLink RX10 73 RX8) (by decide +kernel)
  have his8 := hts (.instantiable RX8 7) (by decide +kernel)
  have hiniX8_init := hts (.initialized RX8) (by decide +kernel)
  have himX8_init := hts (.instanceMethod yX8_init) (by decide +kernel)
  have hml75 := hts (.methodLink RX10 75 yX8_init) (by decide +kernel)
  have hfl78 := hts (.fieldLink RX10 78 "PlyPlates" "search" "LPlyPlates$Search;") (by decide +kernel)
  have main : ∀ (H : Heap) (locs : List Loc), CI D cy κ0 sz h0 10 κ0 (fun _ => none) (fun k => defaultValue (tyX10 k)) H → va_S (AC κ0 h0 sz) s.heap H locs → W p l e rmX10_init s m args below meth c H locs 0 0 Q (F0 m 0 ls []) := by
    intro H locs hC hS
    refine lv_aload_n hx hb dX10_init_0 rfl (lv_at hl 0 rfl) ?_
    refine W.objInit hx hb hown hoi1 hoi2 hoi3 rfl (by rw [hml]; exact hl.1) rfl dX10_init_1 (Nat.le_of_ble_eq_true rfl) (Nat.le_of_ble_eq_true rfl) ?_
    refine W.eq (g2 := F0 m 4 ls []) rfl ?_
    refine lv_aload_n hx hb dX10_init_4 rfl (lv_at hl 0 rfl) ?_
    refine lv_iconst (v := (3 : Int32)) hx hb dX10_init_5 (by decide) ?_
    refine ci_anew (C := RX9) (t := 4) (N := 3) hx hb hown hcl11 hN.2.2.2.1 hK rfl hC hS (by decide) (by decide) (by decide) (Nat.le_of_ble_eq_true rfl) (Nat.le_of_ble_eq_true rfl) dX10_init_6 (fun q1 ρ2 f3 H hC hrq1 hoq1 hnq1 hS => ?_)
    have hfq1 : ∀ j, j < 0 → toK κ0 10 (f3 j) := fun j hj => absurd hj (Nat.not_lt_zero j)
    refine W.widen (k := 1) (n := 3) (by omega) (by omega) ?_
    refine ci_put (ci := 10) (C := RX10) (T := TX10) (N := 11) hx hb hts hin10 tyX10 tyX10_ok nmX10 hown hK hC hS rfl rfl 0 (by decide) rfl hfl13 (Or.inr ⟨rfl, hname, rfl⟩) (v := .ref q1) rfl rfl dX10_init_9 (fun H locs hC hS => ?_)
    refine lv_aload_n hx hb dX10_init_12 rfl (lv_at hl 0 rfl) ?_
    refine lv_iconst (v := (4 : Int32)) hx hb dX10_init_13 (by decide) ?_
    refine ci_anew (C := RX7) (t := 3) (N := 4) hx hb hown hcl17 hN.2.2.1 hK rfl hC hS (by decide) (by decide) (by decide) (Nat.le_of_ble_eq_true rfl) (Nat.le_of_ble_eq_true rfl) dX10_init_14 (fun q4 ρ5 f6 H hC hrq4 hoq4 hnq4 hS => ?_)
    have neq1_q4 : q1 ≠ q4 := fun e9 => by rw [e9, hnq4] at hrq1; cases hrq1
    have neq4_q1 : q4 ≠ q1 := Ne.symm neq1_q4
    have hrq1 := (hoq4 q1 neq1_q4).trans hrq1
    have hfq4 : ∀ j, j < 0 → toK κ0 8 (f6 j) := fun j hj => absurd hj (Nat.not_lt_zero j)
    refine W.widen (k := 2) (n := 7) (by omega) (by omega) ?_
    refine ci_put (ci := 10) (C := RX10) (T := TX10) (N := 11) hx hb hts hin10 tyX10 tyX10_ok nmX10 hown hK hC hS rfl rfl 1 (by decide) rfl hfl19 (Or.inr ⟨rfl, hname, rfl⟩) (v := .ref q4) rfl rfl dX10_init_17 (fun H locs hC hS => ?_)
    refine lv_aload_n hx hb dX10_init_20 rfl (lv_at hl 0 rfl) ?_
    refine ci_newR (cj := 1) (C := RX1) (T := TX1) (N := 2) hx hb hts hin1 tyX1 tyX1_ok hown hcl23 his1 hiniX1_init hK hC hS rfl rfl (Nat.le_of_ble_eq_true rfl) (Nat.le_of_ble_eq_true rfl) dX10_init_21 (fun q7 H hC hoq7 hkq7 hlq7 hzq7 hnq7 hS => ?_)
    refine W.widen (k := 3) (n := 9) (by omega) (by omega) ?_
    refine lv_dup hx hb dX10_init_24 rfl ?_
    refine ci_ctor (K := 2) (va_runIN (As := []) (rest := [.ref q7, .ref h0]) ⟨hx, hb, hml, hown, hts⟩ (c_X1_init l D cy κ0 H.size q7 hkq7 hlq7 hsg2) ⟨va_cnB 0 hts gX10_init_X1_init_n25 rfl rfl rfl hN.1.1 hiniX1_init (by decide +kernel) ⟨Nat.le_of_ble_eq_true rfl, Nat.le_of_ble_eq_true rfl⟩, rfl, himX1_init⟩ (ci_pre hK hN hC hoq7) rfl rfl hl.1 rfl (lv_room (Nat.le_of_ble_eq_true rfl)) dX10_init_25 ⟨Nat.le_of_ble_eq_true rfl, Nat.le_of_ble_eq_true rfl⟩) hC hS hzq7 (Or.inr rfl) hnq7 (fun κ8 H locs hC he kq7 hS => ?_)
    refine W.widen (k := 8) (n := 25) (by omega) (by omega) ?_
    have hfq1 := fill_mono he (by decide) hfq1
    have hfq4 := fill_mono he (by decide) hfq4
    refine ci_put (ci := 10) (C := RX10) (T := TX10) (N := 11) hx hb hts hin10 tyX10 tyX10_ok nmX10 hown hK hC hS rfl rfl 2 (by decide) rfl hfl26 (Or.inr ⟨rfl, hname, rfl⟩) (v := .ref q7) rfl rfl dX10_init_28 (fun H locs hC hS => ?_)
    refine lv_aload_n hx hb dX10_init_31 rfl (lv_at hl 0 rfl) ?_
    refine ci_newS (cj := 4) (C := RX4) (T := TX4) (N := 3) hx hb hts hin4 tyX4 tyX4_ok hown hcl30 his4 hiniX4_init hK hC hS rfl rfl (by decide) (by unfold sing; decide) (fun κ' q k hk => ?_) (Nat.le_of_ble_eq_true rfl) (Nat.le_of_ble_eq_true rfl) dX10_init_32 (fun q9 κ10 H hC he kq9 hS => ?_)
    · rcases (show k = 0 ∨ k = 1 ∨ k = 2 by omega) with rfl | rfl | rfl <;> exact ⟨_, rfl, by first | trivial | decide⟩
    refine W.widen (k := 9) (n := 28) (by omega) (by omega) ?_
    have kq7 := (he q7 (by rw [kq7]; decide)).trans kq7
    have hfq1 := fill_mono he (by decide) hfq1
    have hfq4 := fill_mono he (by decide) hfq4
    refine lv_dup hx hb dX10_init_35 rfl ?_
    refine ci_callS ⟨hx, hb, hml, hown, hts⟩ (c_X4_init l D cy κ10 Z0 q9 kq9) ⟨va_cnB 0 hts gX10_init_X4_init_n32 rfl rfl rfl hN.1.2.1 hiniX4_init (by decide +kernel) ⟨Nat.le_of_ble_eq_true rfl, Nat.le_of_ble_eq_true rfl⟩, rfl, himX4_init⟩ hK hC hS hl.1 (Nat.le_of_ble_eq_true rfl) dX10_init_36 ⟨Nat.le_of_ble_eq_true rfl, Nat.le_of_ble_eq_true rfl⟩ (fun H locs hC hS => ?_)
    refine ci_put (ci := 10) (C := RX10) (T := TX10) (N := 11) hx hb hts hin10 tyX10 tyX10_ok nmX10 hown hK hC hS rfl rfl 3 (by decide) rfl hfl33 (Or.inr ⟨rfl, hname, rfl⟩) (v := .ref q9) rfl rfl dX10_init_39 (fun H locs hC hS => ?_)
    refine lv_aload_n hx hb dX10_init_42 rfl (lv_at hl 0 rfl) ?_
    refine ci_newR (cj := 0) (C := RX0) (T := TX0) (N := 4) hx hb hts hin0 tyX0 tyX0_ok hown hcl37 his0 hiniX0_init hK hC hS rfl rfl (Nat.le_of_ble_eq_true rfl) (Nat.le_of_ble_eq_true rfl) dX10_init_43 (fun q11 H hC hoq11 hkq11 hlq11 hzq11 hnq11 hS => ?_)
    refine W.widen (k := 10) (n := 32) (by omega) (by omega) ?_
    refine lv_dup hx hb dX10_init_46 rfl ?_
    refine ci_ctor (K := 1) (va_runIN (As := []) (rest := [.ref q11, .ref h0]) ⟨hx, hb, hml, hown, hts⟩ (c_X0_init l D cy κ10 H.size q11 hkq11 hlq11) ⟨va_cnB 0 hts gX10_init_X0_init_n39 rfl rfl rfl hN.1.2.2.1 hiniX0_init (by decide +kernel) ⟨Nat.le_of_ble_eq_true rfl, Nat.le_of_ble_eq_true rfl⟩, rfl, himX0_init⟩ (ci_pre hK hN hC hoq11) rfl rfl hl.1 rfl (lv_room (Nat.le_of_ble_eq_true rfl)) dX10_init_47 ⟨Nat.le_of_ble_eq_true rfl, Nat.le_of_ble_eq_true rfl⟩) hC hS hzq11 (Or.inl (by unfold sing; decide)) hnq11 (fun κ12 H locs hC he kq11 hS => ?_)
    refine W.widen (k := 13) (n := 104) (by omega) (by omega) ?_
    have kq7 := (he q7 (by rw [kq7]; decide)).trans kq7
    have kq9 := (he q9 (by rw [kq9]; decide)).trans kq9
    have hfq1 := fill_mono he (by decide) hfq1
    have hfq4 := fill_mono he (by decide) hfq4
    refine ci_put (ci := 10) (C := RX10) (T := TX10) (N := 11) hx hb hts hin10 tyX10 tyX10_ok nmX10 hown hK hC hS rfl rfl 4 (by decide) rfl hfl40 (Or.inr ⟨rfl, hname, rfl⟩) (v := .ref q11) rfl rfl dX10_init_50 (fun H locs hC hS => ?_)
    refine lv_aload_n hx hb dX10_init_53 rfl (lv_at hl 0 rfl) ?_
    refine ci_newR (cj := 7) (C := RX7) (T := TX7) (N := 2) hx hb hts hin7 tyX7 tyX7_ok hown hcl17 his7 hiniX7_init hK hC hS rfl rfl (Nat.le_of_ble_eq_true rfl) (Nat.le_of_ble_eq_true rfl) dX10_init_54 (fun q13 H hC hoq13 hkq13 hlq13 hzq13 hnq13 hS => ?_)
    refine W.widen (k := 14) (n := 106) (by omega) (by omega) ?_
    refine lv_dup hx hb dX10_init_57 rfl ?_
    refine ci_ctor (K := 8) (va_runI (As := []) (rest := [.ref q13, .ref h0]) ⟨hx, hb, hml, hown, hts⟩ (c_X7_init l D cy κ12 H.size q13 hkq13 hlq13) (cwI 0 hts gX10_init_X7_init rfl rfl rfl hiniX7_init hml44 himX7_init rfl (by decide +kernel) ⟨Nat.le_of_ble_eq_true rfl, Nat.le_of_ble_eq_true rfl⟩) (ci_pre hK hN hC hoq13) rfl rfl hl.1 rfl (lv_room (Nat.le_of_ble_eq_true rfl)) dX10_init_58 ⟨Nat.le_of_ble_eq_true rfl, Nat.le_of_ble_eq_true rfl⟩) hC hS hzq13 (Or.inl (by unfold sing; decide)) hnq13 (fun κ14 H locs hC he kq13 hS => ?_)
    refine W.widen (k := 27) (n := 166) (by omega) (by omega) ?_
    have kq7 := (he q7 (by rw [kq7]; decide)).trans kq7
    have kq9 := (he q9 (by rw [kq9]; decide)).trans kq9
    have kq11 := (he q11 (by rw [kq11]; decide)).trans kq11
    have hfq1 := fill_mono he (by decide) hfq1
    have hfq4 := fill_mono he (by decide) hfq4
    refine ci_put (ci := 10) (C := RX10) (T := TX10) (N := 11) hx hb hts hin10 tyX10 tyX10_ok nmX10 hown hK hC hS rfl rfl 5 (by decide) rfl hfl45 (Or.inr ⟨rfl, hname, rfl⟩) (v := .ref q13) rfl rfl dX10_init_61 (fun H locs hC hS => ?_)
    refine lv_aload_n hx hb dX10_init_64 rfl (lv_at hl 0 rfl) ?_
    refine ci_newS (cj := 3) (C := RX3) (T := TX3) (N := 2) hx hb hts hin3 tyX3 tyX3_ok hown hcl49 his3 hiniX3_init hK hC hS rfl rfl (by decide) (by unfold sing; decide) (fun κ' q k hk => ?_) (Nat.le_of_ble_eq_true rfl) (Nat.le_of_ble_eq_true rfl) dX10_init_65 (fun q15 κ16 H hC he kq15 hS => ?_)
    · rcases (show k = 0 ∨ k = 1 by omega) with rfl | rfl <;> exact ⟨_, rfl, by first | trivial | decide⟩
    refine W.widen (k := 28) (n := 168) (by omega) (by omega) ?_
    have kq7 := (he q7 (by rw [kq7]; decide)).trans kq7
    have kq9 := (he q9 (by rw [kq9]; decide)).trans kq9
    have kq11 := (he q11 (by rw [kq11]; decide)).trans kq11
    have kq13 := (he q13 (by rw [kq13]; decide)).trans kq13
    have hfq1 := fill_mono he (by decide) hfq1
    have hfq4 := fill_mono he (by decide) hfq4
    refine lv_dup hx hb dX10_init_68 rfl ?_
    refine ci_callS ⟨hx, hb, hml, hown, hts⟩ (c_X3_init l D cy κ16 Z0 q15 kq15) ⟨va_cnB 0 hts gX10_init_X3_init_n51 rfl rfl rfl hN.1.2.2.2.2.1 hiniX3_init (by decide +kernel) ⟨Nat.le_of_ble_eq_true rfl, Nat.le_of_ble_eq_true rfl⟩, rfl, himX3_init⟩ hK hC hS hl.1 (Nat.le_of_ble_eq_true rfl) dX10_init_69 ⟨Nat.le_of_ble_eq_true rfl, Nat.le_of_ble_eq_true rfl⟩ (fun H locs hC hS => ?_)
    refine ci_put (ci := 10) (C := RX10) (T := TX10) (N := 11) hx hb hts hin10 tyX10 tyX10_ok nmX10 hown hK hC hS rfl rfl 6 (by decide) rfl hfl52 (Or.inr ⟨rfl, hname, rfl⟩) (v := .ref q15) rfl rfl dX10_init_72 (fun H locs hC hS => ?_)
    refine lv_aload_n hx hb dX10_init_75 rfl (lv_at hl 0 rfl) ?_
    refine lv_iconst (v := (0 : Int32)) hx hb dX10_init_76 (by decide) ?_
    refine ci_put (ci := 10) (C := RX10) (T := TX10) (N := 11) hx hb hts hin10 tyX10 tyX10_ok nmX10 hown hK hC hS rfl rfl 9 (by decide) rfl hfl56 (Or.inl rfl) (v := .int (0 : Int32)) rfl rfl dX10_init_77 (fun H locs hC hS => ?_)
    refine lv_aload_n hx hb dX10_init_80 rfl (lv_at hl 0 rfl) ?_
    refine lv_iconst (v := (0 : Int32)) hx hb dX10_init_81 (by decide) ?_
    refine ci_put (ci := 10) (C := RX10) (T := TX10) (N := 11) hx hb hts hin10 tyX10 tyX10_ok nmX10 hown hK hC hS rfl rfl 10 (by decide) rfl hfl60 (Or.inl rfl) (v := .int (0 : Int32)) rfl rfl dX10_init_82 (fun H locs hC hS => ?_)
    refine lv_iconst (v := (0 : Int32)) hx hb dX10_init_85 (by decide) ?_
    refine lv_istore_n (lv' := [(1, .int (0 : Int32)), (0, .ref h0)]) hx hb dX10_init_86 rfl hl (by decide) rfl (fun ls hl => ?_)
    refine lv_iload_n hx hb dX10_init_87 rfl (lv_at hl 0 rfl) ?_
    refine lv_iconst (v := (3 : Int32)) hx hb dX10_init_88 (by decide) ?_
    refine tb_icmp_ge (tgt := 111) hx hb dX10_init_89 (by decide) (fun cq => absurd cq (by decide)) (fun _ => ?_)
    refine lv_aload_n hx hb dX10_init_92 rfl (lv_at hl 1 rfl) ?_
    refine ci_get (ci := 10) (C := RX10) (T := TX10) (N := 11) (v := .ref q1) hx hb hts hin10 hown hK hC rfl rfl 0 (by decide) rfl hfl13 rfl dX10_init_93 ?_
    refine lv_iload_n hx hb dX10_init_96 rfl (lv_at hl 0 rfl) ?_
    refine ci_newR (cj := 9) (C := RX9) (T := TX9) (N := 7) hx hb hts hin9 tyX9 tyX9_ok hown hcl11 his9 hiniX9_init hK hC hS rfl rfl (Nat.le_of_ble_eq_true rfl) (Nat.le_of_ble_eq_true rfl) dX10_init_97 (fun q17 H hC hoq17 hkq17 hlq17 hzq17 hnq17 hS => ?_)
    refine W.widen (k := 29) (n := 175) (by omega) (by omega) ?_
    refine lv_dup hx hb dX10_init_100 rfl ?_
    refine ci_ctor (K := 10) (va_runIN (As := []) (rest := [.ref q17, .int (0 : Int32), .ref q1]) ⟨hx, hb, hml, hown, hts⟩ (c_X9_init l D cy κ16 H.size q17 hkq17 hlq17) ⟨va_cnB 0 hts gX10_init_X9_init_n63 rfl rfl rfl hN.1.2.2.2.2.2.1 hiniX9_init (by decide +kernel) ⟨Nat.le_of_ble_eq_true rfl, Nat.le_of_ble_eq_true rfl⟩, rfl, himX9_init⟩ (ci_pre hK hN hC hoq17) rfl rfl hl.1 rfl (lv_room (Nat.le_of_ble_eq_true rfl)) dX10_init_101 ⟨Nat.le_of_ble_eq_true rfl, Nat.le_of_ble_eq_true rfl⟩) hC hS hzq17 (Or.inl (by unfold sing; decide)) hnq17 (fun κ18 H locs hC he kq17 hS => ?_)
    refine W.widen (k := 30) (n := 180) (by omega) (by omega) ?_
    have kq7 := (he q7 (by rw [kq7]; decide)).trans kq7
    have kq9 := (he q9 (by rw [kq9]; decide)).trans kq9
    have kq11 := (he q11 (by rw [kq11]; decide)).trans kq11
    have kq13 := (he q13 (by rw [kq13]; decide)).trans kq13
    have kq15 := (he q15 (by rw [kq15]; decide)).trans kq15
    have hfq1 := fill_mono he (by decide) hfq1
    have hfq4 := fill_mono he (by decide) hfq4
    refine ci_aast (t := 4) (cj := 9) (r := (RX9, TX9, 7)) hx hb hK hC hS rfl rfl kq17 (by decide) hrq1 (by decide) dX10_init_104 (fun ρ19 f20 H locs hC hrq1 ho9 h91 h92 hS => ?_)
    have hrq4 := (ho9 q4 (fun e9 => neq4_q1 e9)).trans hrq4
    have hfq1 : ∀ j, j < 0 + 1 → toK κ18 10 (f20 j) := fill_step hfq1 kq17 h91 h92
    refine lv_iinc (v := (1 : Int32)) (lv' := [(1, .int (1 : Int32)), (0, .ref h0)]) hx hb dX10_init_105 hl (k := 0) rfl (by decide) (by decide) rfl (fun ls hl => ?_)
    refine lv_goto (tgt := 87) hx hb dX10_init_108 (by decide) ?_
    refine lv_iload_n hx hb dX10_init_87 rfl (lv_at hl 0 rfl) ?_
    refine lv_iconst (v := (3 : Int32)) hx hb dX10_init_88 (by decide) ?_
    refine tb_icmp_ge (tgt := 111) hx hb dX10_init_89 (by decide) (fun cq => absurd cq (by decide)) (fun _ => ?_)
    refine lv_aload_n hx hb dX10_init_92 rfl (lv_at hl 1 rfl) ?_
    refine ci_get (ci := 10) (C := RX10) (T := TX10) (N := 11) (v := .ref q1) hx hb hts hin10 hown hK hC rfl rfl 0 (by decide) rfl hfl13 rfl dX10_init_93 ?_
    refine lv_iload_n hx hb dX10_init_96 rfl (lv_at hl 0 rfl) ?_
    refine ci_newR (cj := 9) (C := RX9) (T := TX9) (N := 7) hx hb hts hin9 tyX9 tyX9_ok hown hcl11 his9 hiniX9_init hK hC hS rfl rfl (Nat.le_of_ble_eq_true rfl) (Nat.le_of_ble_eq_true rfl) dX10_init_97 (fun q21 H hC hoq21 hkq21 hlq21 hzq21 hnq21 hS => ?_)
    refine W.widen (k := 31) (n := 187) (by omega) (by omega) ?_
    refine lv_dup hx hb dX10_init_100 rfl ?_
    refine ci_ctor (K := 10) (va_runIN (As := []) (rest := [.ref q21, .int (1 : Int32), .ref q1]) ⟨hx, hb, hml, hown, hts⟩ (c_X9_init l D cy κ18 H.size q21 hkq21 hlq21) ⟨va_cnB 0 hts gX10_init_X9_init_n63 rfl rfl rfl hN.1.2.2.2.2.2.1 hiniX9_init (by decide +kernel) ⟨Nat.le_of_ble_eq_true rfl, Nat.le_of_ble_eq_true rfl⟩, rfl, himX9_init⟩ (ci_pre hK hN hC hoq21) rfl rfl hl.1 rfl (lv_room (Nat.le_of_ble_eq_true rfl)) dX10_init_101 ⟨Nat.le_of_ble_eq_true rfl, Nat.le_of_ble_eq_true rfl⟩) hC hS hzq21 (Or.inl (by unfold sing; decide)) hnq21 (fun κ22 H locs hC he kq21 hS => ?_)
    refine W.widen (k := 32) (n := 192) (by omega) (by omega) ?_
    have kq7 := (he q7 (by rw [kq7]; decide)).trans kq7
    have kq9 := (he q9 (by rw [kq9]; decide)).trans kq9
    have kq11 := (he q11 (by rw [kq11]; decide)).trans kq11
    have kq13 := (he q13 (by rw [kq13]; decide)).trans kq13
    have kq15 := (he q15 (by rw [kq15]; decide)).trans kq15
    have hfq1 := fill_mono he (by decide) hfq1
    have hfq4 := fill_mono he (by decide) hfq4
    refine ci_aast (t := 4) (cj := 9) (r := (RX9, TX9, 7)) hx hb hK hC hS rfl rfl kq21 (by decide) hrq1 (by decide) dX10_init_104 (fun ρ23 f24 H locs hC hrq1 ho9 h91 h92 hS => ?_)
    have hrq4 := (ho9 q4 (fun e9 => neq4_q1 e9)).trans hrq4
    have hfq1 : ∀ j, j < 1 + 1 → toK κ22 10 (f24 j) := fill_step hfq1 kq21 h91 h92
    refine lv_iinc (v := (2 : Int32)) (lv' := [(1, .int (2 : Int32)), (0, .ref h0)]) hx hb dX10_init_105 hl (k := 0) rfl (by decide) (by decide) rfl (fun ls hl => ?_)
    refine lv_goto (tgt := 87) hx hb dX10_init_108 (by decide) ?_
    refine lv_iload_n hx hb dX10_init_87 rfl (lv_at hl 0 rfl) ?_
    refine lv_iconst (v := (3 : Int32)) hx hb dX10_init_88 (by decide) ?_
    refine tb_icmp_ge (tgt := 111) hx hb dX10_init_89 (by decide) (fun cq => absurd cq (by decide)) (fun _ => ?_)
    refine lv_aload_n hx hb dX10_init_92 rfl (lv_at hl 1 rfl) ?_
    refine ci_get (ci := 10) (C := RX10) (T := TX10) (N := 11) (v := .ref q1) hx hb hts hin10 hown hK hC rfl rfl 0 (by decide) rfl hfl13 rfl dX10_init_93 ?_
    refine lv_iload_n hx hb dX10_init_96 rfl (lv_at hl 0 rfl) ?_
    refine ci_newR (cj := 9) (C := RX9) (T := TX9) (N := 7) hx hb hts hin9 tyX9 tyX9_ok hown hcl11 his9 hiniX9_init hK hC hS rfl rfl (Nat.le_of_ble_eq_true rfl) (Nat.le_of_ble_eq_true rfl) dX10_init_97 (fun q25 H hC hoq25 hkq25 hlq25 hzq25 hnq25 hS => ?_)
    refine W.widen (k := 33) (n := 199) (by omega) (by omega) ?_
    refine lv_dup hx hb dX10_init_100 rfl ?_
    refine ci_ctor (K := 10) (va_runIN (As := []) (rest := [.ref q25, .int (2 : Int32), .ref q1]) ⟨hx, hb, hml, hown, hts⟩ (c_X9_init l D cy κ22 H.size q25 hkq25 hlq25) ⟨va_cnB 0 hts gX10_init_X9_init_n63 rfl rfl rfl hN.1.2.2.2.2.2.1 hiniX9_init (by decide +kernel) ⟨Nat.le_of_ble_eq_true rfl, Nat.le_of_ble_eq_true rfl⟩, rfl, himX9_init⟩ (ci_pre hK hN hC hoq25) rfl rfl hl.1 rfl (lv_room (Nat.le_of_ble_eq_true rfl)) dX10_init_101 ⟨Nat.le_of_ble_eq_true rfl, Nat.le_of_ble_eq_true rfl⟩) hC hS hzq25 (Or.inl (by unfold sing; decide)) hnq25 (fun κ26 H locs hC he kq25 hS => ?_)
    refine W.widen (k := 34) (n := 204) (by omega) (by omega) ?_
    have kq7 := (he q7 (by rw [kq7]; decide)).trans kq7
    have kq9 := (he q9 (by rw [kq9]; decide)).trans kq9
    have kq11 := (he q11 (by rw [kq11]; decide)).trans kq11
    have kq13 := (he q13 (by rw [kq13]; decide)).trans kq13
    have kq15 := (he q15 (by rw [kq15]; decide)).trans kq15
    have hfq1 := fill_mono he (by decide) hfq1
    have hfq4 := fill_mono he (by decide) hfq4
    refine ci_aast (t := 4) (cj := 9) (r := (RX9, TX9, 7)) hx hb hK hC hS rfl rfl kq25 (by decide) hrq1 (by decide) dX10_init_104 (fun ρ27 f28 H locs hC hrq1 ho9 h91 h92 hS => ?_)
    have hrq4 := (ho9 q4 (fun e9 => neq4_q1 e9)).trans hrq4
    have hfq1 : ∀ j, j < 2 + 1 → toK κ26 10 (f28 j) := fill_step hfq1 kq25 h91 h92
    refine lv_iinc (v := (3 : Int32)) (lv' := [(1, .int (3 : Int32)), (0, .ref h0)]) hx hb dX10_init_105 hl (k := 0) rfl (by decide) (by decide) rfl (fun ls hl => ?_)
    refine lv_goto (tgt := 87) hx hb dX10_init_108 (by decide) ?_
    refine lv_iload_n hx hb dX10_init_87 rfl (lv_at hl 0 rfl) ?_
    refine lv_iconst (v := (3 : Int32)) hx hb dX10_init_88 (by decide) ?_
    refine tb_icmp_ge (tgt := 111) hx hb dX10_init_89 (by decide) (fun _ => ?_) (fun cq => absurd cq (by decide))
    refine lv_iconst (v := (0 : Int32)) hx hb dX10_init_111 (by decide) ?_
    refine lv_istore_n (lv' := [(1, .int (0 : Int32)), (0, .ref h0)]) hx hb dX10_init_112 rfl hl (by decide) rfl (fun ls hl => ?_)
    refine lv_iload_n hx hb dX10_init_113 rfl (lv_at hl 0 rfl) ?_
    refine lv_iconst (v := (4 : Int32)) hx hb dX10_init_114 (by decide) ?_
    refine tb_icmp_ge (tgt := 137) hx hb dX10_init_115 (by decide) (fun cq => absurd cq (by decide)) (fun _ => ?_)
    refine lv_aload_n hx hb dX10_init_118 rfl (lv_at hl 1 rfl) ?_
    refine ci_get (ci := 10) (C := RX10) (T := TX10) (N := 11) (v := .ref q4) hx hb hts hin10 hown hK hC rfl rfl 1 (by decide) rfl hfl19 rfl dX10_init_119 ?_
    refine lv_iload_n hx hb dX10_init_122 rfl (lv_at hl 0 rfl) ?_
    refine ci_newR (cj := 7) (C := RX7) (T := TX7) (N := 2) hx hb hts hin7 tyX7 tyX7_ok hown hcl17 his7 hiniX7_init hK hC hS rfl rfl (Nat.le_of_ble_eq_true rfl) (Nat.le_of_ble_eq_true rfl) dX10_init_123 (fun q29 H hC hoq29 hkq29 hlq29 hzq29 hnq29 hS => ?_)
    refine W.widen (k := 35) (n := 206) (by omega) (by omega) ?_
    refine lv_dup hx hb dX10_init_126 rfl ?_
    refine ci_ctor (K := 8) (va_runI (As := []) (rest := [.ref q29, .int (0 : Int32), .ref q4]) ⟨hx, hb, hml, hown, hts⟩ (c_X7_init l D cy κ26 H.size q29 hkq29 hlq29) (cwI 0 hts gX10_init_X7_init rfl rfl rfl hiniX7_init hml44 himX7_init rfl (by decide +kernel) ⟨Nat.le_of_ble_eq_true rfl, Nat.le_of_ble_eq_true rfl⟩) (ci_pre hK hN hC hoq29) rfl rfl hl.1 rfl (lv_room (Nat.le_of_ble_eq_true rfl)) dX10_init_127 ⟨Nat.le_of_ble_eq_true rfl, Nat.le_of_ble_eq_true rfl⟩) hC hS hzq29 (Or.inl (by unfold sing; decide)) hnq29 (fun κ30 H locs hC he kq29 hS => ?_)
    refine W.widen (k := 48) (n := 266) (by omega) (by omega) ?_
    have kq7 := (he q7 (by rw [kq7]; decide)).trans kq7
    have kq9 := (he q9 (by rw [kq9]; decide)).trans kq9
    have kq11 := (he q11 (by rw [kq11]; decide)).trans kq11
    have kq13 := (he q13 (by rw [kq13]; decide)).trans kq13
    have kq15 := (he q15 (by rw [kq15]; decide)).trans kq15
    have hfq1 := fill_mono he (by decide) hfq1
    have hfq4 := fill_mono he (by decide) hfq4
    refine ci_aast (t := 3) (cj := 7) (r := (RX7, TX7, 2)) hx hb hK hC hS rfl rfl kq29 (by decide) hrq4 (by decide) dX10_init_130 (fun ρ31 f32 H locs hC hrq4 ho9 h91 h92 hS => ?_)
    have hrq1 := (ho9 q1 (fun e9 => neq1_q4 e9)).trans hrq1
    have hfq4 : ∀ j, j < 0 + 1 → toK κ30 8 (f32 j) := fill_step hfq4 kq29 h91 h92
    refine lv_iinc (v := (1 : Int32)) (lv' := [(1, .int (1 : Int32)), (0, .ref h0)]) hx hb dX10_init_131 hl (k := 0) rfl (by decide) (by decide) rfl (fun ls hl => ?_)
    refine lv_goto (tgt := 113) hx hb dX10_init_134 (by decide) ?_
    refine lv_iload_n hx hb dX10_init_113 rfl (lv_at hl 0 rfl) ?_
    refine lv_iconst (v := (4 : Int32)) hx hb dX10_init_114 (by decide) ?_
    refine tb_icmp_ge (tgt := 137) hx hb dX10_init_115 (by decide) (fun cq => absurd cq (by decide)) (fun _ => ?_)
    refine lv_aload_n hx hb dX10_init_118 rfl (lv_at hl 1 rfl) ?_
    refine ci_get (ci := 10) (C := RX10) (T := TX10) (N := 11) (v := .ref q4) hx hb hts hin10 hown hK hC rfl rfl 1 (by decide) rfl hfl19 rfl dX10_init_119 ?_
    refine lv_iload_n hx hb dX10_init_122 rfl (lv_at hl 0 rfl) ?_
    refine ci_newR (cj := 7) (C := RX7) (T := TX7) (N := 2) hx hb hts hin7 tyX7 tyX7_ok hown hcl17 his7 hiniX7_init hK hC hS rfl rfl (Nat.le_of_ble_eq_true rfl) (Nat.le_of_ble_eq_true rfl) dX10_init_123 (fun q33 H hC hoq33 hkq33 hlq33 hzq33 hnq33 hS => ?_)
    refine W.widen (k := 49) (n := 268) (by omega) (by omega) ?_
    refine lv_dup hx hb dX10_init_126 rfl ?_
    refine ci_ctor (K := 8) (va_runI (As := []) (rest := [.ref q33, .int (1 : Int32), .ref q4]) ⟨hx, hb, hml, hown, hts⟩ (c_X7_init l D cy κ30 H.size q33 hkq33 hlq33) (cwI 0 hts gX10_init_X7_init rfl rfl rfl hiniX7_init hml44 himX7_init rfl (by decide +kernel) ⟨Nat.le_of_ble_eq_true rfl, Nat.le_of_ble_eq_true rfl⟩) (ci_pre hK hN hC hoq33) rfl rfl hl.1 rfl (lv_room (Nat.le_of_ble_eq_true rfl)) dX10_init_127 ⟨Nat.le_of_ble_eq_true rfl, Nat.le_of_ble_eq_true rfl⟩) hC hS hzq33 (Or.inl (by unfold sing; decide)) hnq33 (fun κ34 H locs hC he kq33 hS => ?_)
    refine W.widen (k := 62) (n := 328) (by omega) (by omega) ?_
    have kq7 := (he q7 (by rw [kq7]; decide)).trans kq7
    have kq9 := (he q9 (by rw [kq9]; decide)).trans kq9
    have kq11 := (he q11 (by rw [kq11]; decide)).trans kq11
    have kq13 := (he q13 (by rw [kq13]; decide)).trans kq13
    have kq15 := (he q15 (by rw [kq15]; decide)).trans kq15
    have hfq1 := fill_mono he (by decide) hfq1
    have hfq4 := fill_mono he (by decide) hfq4
    refine ci_aast (t := 3) (cj := 7) (r := (RX7, TX7, 2)) hx hb hK hC hS rfl rfl kq33 (by decide) hrq4 (by decide) dX10_init_130 (fun ρ35 f36 H locs hC hrq4 ho9 h91 h92 hS => ?_)
    have hrq1 := (ho9 q1 (fun e9 => neq1_q4 e9)).trans hrq1
    have hfq4 : ∀ j, j < 1 + 1 → toK κ34 8 (f36 j) := fill_step hfq4 kq33 h91 h92
    refine lv_iinc (v := (2 : Int32)) (lv' := [(1, .int (2 : Int32)), (0, .ref h0)]) hx hb dX10_init_131 hl (k := 0) rfl (by decide) (by decide) rfl (fun ls hl => ?_)
    refine lv_goto (tgt := 113) hx hb dX10_init_134 (by decide) ?_
    refine lv_iload_n hx hb dX10_init_113 rfl (lv_at hl 0 rfl) ?_
    refine lv_iconst (v := (4 : Int32)) hx hb dX10_init_114 (by decide) ?_
    refine tb_icmp_ge (tgt := 137) hx hb dX10_init_115 (by decide) (fun cq => absurd cq (by decide)) (fun _ => ?_)
    refine lv_aload_n hx hb dX10_init_118 rfl (lv_at hl 1 rfl) ?_
    refine ci_get (ci := 10) (C := RX10) (T := TX10) (N := 11) (v := .ref q4) hx hb hts hin10 hown hK hC rfl rfl 1 (by decide) rfl hfl19 rfl dX10_init_119 ?_
    refine lv_iload_n hx hb dX10_init_122 rfl (lv_at hl 0 rfl) ?_
    refine ci_newR (cj := 7) (C := RX7) (T := TX7) (N := 2) hx hb hts hin7 tyX7 tyX7_ok hown hcl17 his7 hiniX7_init hK hC hS rfl rfl (Nat.le_of_ble_eq_true rfl) (Nat.le_of_ble_eq_true rfl) dX10_init_123 (fun q37 H hC hoq37 hkq37 hlq37 hzq37 hnq37 hS => ?_)
    refine W.widen (k := 63) (n := 330) (by omega) (by omega) ?_
    refine lv_dup hx hb dX10_init_126 rfl ?_
    refine ci_ctor (K := 8) (va_runI (As := []) (rest := [.ref q37, .int (2 : Int32), .ref q4]) ⟨hx, hb, hml, hown, hts⟩ (c_X7_init l D cy κ34 H.size q37 hkq37 hlq37) (cwI 0 hts gX10_init_X7_init rfl rfl rfl hiniX7_init hml44 himX7_init rfl (by decide +kernel) ⟨Nat.le_of_ble_eq_true rfl, Nat.le_of_ble_eq_true rfl⟩) (ci_pre hK hN hC hoq37) rfl rfl hl.1 rfl (lv_room (Nat.le_of_ble_eq_true rfl)) dX10_init_127 ⟨Nat.le_of_ble_eq_true rfl, Nat.le_of_ble_eq_true rfl⟩) hC hS hzq37 (Or.inl (by unfold sing; decide)) hnq37 (fun κ38 H locs hC he kq37 hS => ?_)
    refine W.widen (k := 76) (n := 390) (by omega) (by omega) ?_
    have kq7 := (he q7 (by rw [kq7]; decide)).trans kq7
    have kq9 := (he q9 (by rw [kq9]; decide)).trans kq9
    have kq11 := (he q11 (by rw [kq11]; decide)).trans kq11
    have kq13 := (he q13 (by rw [kq13]; decide)).trans kq13
    have kq15 := (he q15 (by rw [kq15]; decide)).trans kq15
    have hfq1 := fill_mono he (by decide) hfq1
    have hfq4 := fill_mono he (by decide) hfq4
    refine ci_aast (t := 3) (cj := 7) (r := (RX7, TX7, 2)) hx hb hK hC hS rfl rfl kq37 (by decide) hrq4 (by decide) dX10_init_130 (fun ρ39 f40 H locs hC hrq4 ho9 h91 h92 hS => ?_)
    have hrq1 := (ho9 q1 (fun e9 => neq1_q4 e9)).trans hrq1
    have hfq4 : ∀ j, j < 2 + 1 → toK κ38 8 (f40 j) := fill_step hfq4 kq37 h91 h92
    refine lv_iinc (v := (3 : Int32)) (lv' := [(1, .int (3 : Int32)), (0, .ref h0)]) hx hb dX10_init_131 hl (k := 0) rfl (by decide) (by decide) rfl (fun ls hl => ?_)
    refine lv_goto (tgt := 113) hx hb dX10_init_134 (by decide) ?_
    refine lv_iload_n hx hb dX10_init_113 rfl (lv_at hl 0 rfl) ?_
    refine lv_iconst (v := (4 : Int32)) hx hb dX10_init_114 (by decide) ?_
    refine tb_icmp_ge (tgt := 137) hx hb dX10_init_115 (by decide) (fun cq => absurd cq (by decide)) (fun _ => ?_)
    refine lv_aload_n hx hb dX10_init_118 rfl (lv_at hl 1 rfl) ?_
    refine ci_get (ci := 10) (C := RX10) (T := TX10) (N := 11) (v := .ref q4) hx hb hts hin10 hown hK hC rfl rfl 1 (by decide) rfl hfl19 rfl dX10_init_119 ?_
    refine lv_iload_n hx hb dX10_init_122 rfl (lv_at hl 0 rfl) ?_
    refine ci_newR (cj := 7) (C := RX7) (T := TX7) (N := 2) hx hb hts hin7 tyX7 tyX7_ok hown hcl17 his7 hiniX7_init hK hC hS rfl rfl (Nat.le_of_ble_eq_true rfl) (Nat.le_of_ble_eq_true rfl) dX10_init_123 (fun q41 H hC hoq41 hkq41 hlq41 hzq41 hnq41 hS => ?_)
    refine W.widen (k := 77) (n := 392) (by omega) (by omega) ?_
    refine lv_dup hx hb dX10_init_126 rfl ?_
    refine ci_ctor (K := 8) (va_runI (As := []) (rest := [.ref q41, .int (3 : Int32), .ref q4]) ⟨hx, hb, hml, hown, hts⟩ (c_X7_init l D cy κ38 H.size q41 hkq41 hlq41) (cwI 0 hts gX10_init_X7_init rfl rfl rfl hiniX7_init hml44 himX7_init rfl (by decide +kernel) ⟨Nat.le_of_ble_eq_true rfl, Nat.le_of_ble_eq_true rfl⟩) (ci_pre hK hN hC hoq41) rfl rfl hl.1 rfl (lv_room (Nat.le_of_ble_eq_true rfl)) dX10_init_127 ⟨Nat.le_of_ble_eq_true rfl, Nat.le_of_ble_eq_true rfl⟩) hC hS hzq41 (Or.inl (by unfold sing; decide)) hnq41 (fun κ42 H locs hC he kq41 hS => ?_)
    refine W.widen (k := 90) (n := 452) (by omega) (by omega) ?_
    have kq7 := (he q7 (by rw [kq7]; decide)).trans kq7
    have kq9 := (he q9 (by rw [kq9]; decide)).trans kq9
    have kq11 := (he q11 (by rw [kq11]; decide)).trans kq11
    have kq13 := (he q13 (by rw [kq13]; decide)).trans kq13
    have kq15 := (he q15 (by rw [kq15]; decide)).trans kq15
    have hfq1 := fill_mono he (by decide) hfq1
    have hfq4 := fill_mono he (by decide) hfq4
    refine ci_aast (t := 3) (cj := 7) (r := (RX7, TX7, 2)) hx hb hK hC hS rfl rfl kq41 (by decide) hrq4 (by decide) dX10_init_130 (fun ρ43 f44 H locs hC hrq4 ho9 h91 h92 hS => ?_)
    have hrq1 := (ho9 q1 (fun e9 => neq1_q4 e9)).trans hrq1
    have hfq4 : ∀ j, j < 3 + 1 → toK κ42 8 (f44 j) := fill_step hfq4 kq41 h91 h92
    refine lv_iinc (v := (4 : Int32)) (lv' := [(1, .int (4 : Int32)), (0, .ref h0)]) hx hb dX10_init_131 hl (k := 0) rfl (by decide) (by decide) rfl (fun ls hl => ?_)
    refine lv_goto (tgt := 113) hx hb dX10_init_134 (by decide) ?_
    refine lv_iload_n hx hb dX10_init_113 rfl (lv_at hl 0 rfl) ?_
    refine lv_iconst (v := (4 : Int32)) hx hb dX10_init_114 (by decide) ?_
    refine tb_icmp_ge (tgt := 137) hx hb dX10_init_115 (by decide) (fun _ => ?_) (fun cq => absurd cq (by decide))
    refine lv_aload_n hx hb dX10_init_137 rfl (lv_at hl 1 rfl) ?_
    obtain ⟨κ46, eκ46⟩ : ∃ k : Nat → Nat, k = va_up κ42 q1 24 := ⟨_, rfl⟩
    have ka0 : κ42 q1 = 0 := (hC.2.2.2.2.2.2.2.2 q1 _ hrq1).2.1
    have he : ext κ42 κ46 := by rw [eκ46]; exact ext.up ka0
    have hC := hC.sealA (K := 24) hrq1 (by decide) (by unfold sing; decide) (fun j hj => fill_mono (ext.up ka0) (by decide) hfq1 j hj)
    rw [← eκ46] at hC
    have kq1 : κ46 q1 = 24 := by rw [eκ46]; exact if_pos rfl
    obtain ⟨ρ47, eρ47⟩ : ∃ r : Nat → Option Cell, r = (fun b => if b = q1 then none else ρ43 b) := ⟨_, rfl⟩
    rw [← eρ47] at hC
    have hrq4 : ρ47 q4 = some (arrV (cy 3) 4 f44) := by rw [eρ47]; show (if q4 = q1 then none else ρ43 q4) = _; rw [if_neg neq4_q1]; exact hrq4
    have hfq4 := fill_mono he (by decide) hfq4
    have kq7 := (he q7 (by rw [kq7]; decide)).trans kq7
    have kq9 := (he q9 (by rw [kq9]; decide)).trans kq9
    have kq11 := (he q11 (by rw [kq11]; decide)).trans kq11
    have kq13 := (he q13 (by rw [kq13]; decide)).trans kq13
    have kq15 := (he q15 (by rw [kq15]; decide)).trans kq15
    obtain ⟨κ48, eκ48⟩ : ∃ k : Nat → Nat, k = va_up κ46 q4 30 := ⟨_, rfl⟩
    have ka0 : κ46 q4 = 0 := (hC.2.2.2.2.2.2.2.2 q4 _ hrq4).2.1
    have he : ext κ46 κ48 := by rw [eκ48]; exact ext.up ka0
    have hC := hC.sealA (K := 30) hrq4 (by decide) (by unfold sing; decide) (fun j hj => fill_mono (ext.up ka0) (by decide) hfq4 j hj)
    rw [← eκ48] at hC
    have kq4 : κ48 q4 = 30 := by rw [eκ48]; exact if_pos rfl
    obtain ⟨ρ49, eρ49⟩ : ∃ r : Nat → Option Cell, r = (fun b => if b = q4 then none else ρ47 b) := ⟨_, rfl⟩
    rw [← eρ49] at hC
    have kq7 := (he q7 (by rw [kq7]; decide)).trans kq7
    have kq9 := (he q9 (by rw [kq9]; decide)).trans kq9
    have kq11 := (he q11 (by rw [kq11]; decide)).trans kq11
    have kq13 := (he q13 (by rw [kq13]; decide)).trans kq13
    have kq15 := (he q15 (by rw [kq15]; decide)).trans kq15
    have kq1 := (he q1 (by rw [kq1]; decide)).trans kq1
    refine ci_newR (cj := 2) (C := RX2) (T := TX2) (N := 13) hx hb hts hin2 tyX2 tyX2_ok hown hcl64 his2 hiniX2_init hK hC hS rfl rfl (Nat.le_of_ble_eq_true rfl) (Nat.le_of_ble_eq_true rfl) dX10_init_138 (fun q45 H hC hoq45 hkq45 hlq45 hzq45 hnq45 hS => ?_)
    refine W.widen (k := 91) (n := 465) (by omega) (by omega) ?_
    refine lv_dup hx hb dX10_init_141 rfl ?_
    refine lv_aload_n hx hb dX10_init_142 rfl (lv_at hl 1 rfl) ?_
    refine ci_get (ci := 10) (C := RX10) (T := TX10) (N := 11) (v := .ref q1) hx hb hts hin10 hown hK hC rfl rfl 0 (by decide) rfl hfl13 rfl dX10_init_143 ?_
    refine ci_ctor (K := 3) (va_runI (As := [.ref q1]) (rest := [.ref q45, .ref h0]) ⟨hx, hb, hml, hown, hts⟩ (c_X2_init l D cy κ48 H.size q45 hkq45 hlq45 q1 kq1) (cwI 1 hts gX10_init_X2_init rfl rfl rfl hiniX2_init hml66 himX2_init rfl (by decide +kernel) ⟨Nat.le_of_ble_eq_true rfl, Nat.le_of_ble_eq_true rfl⟩) (ci_pre hK hN hC hoq45) rfl rfl hl.1 rfl (lv_room (Nat.le_of_ble_eq_true rfl)) dX10_init_146 ⟨Nat.le_of_ble_eq_true rfl, Nat.le_of_ble_eq_true rfl⟩) hC hS hzq45 (Or.inl (by unfold sing; decide)) hnq45 (fun κ50 H locs hC he kq45 hS => ?_)
    refine W.widen (k := 96) (n := 490) (by omega) (by omega) ?_
    have kq7 := (he q7 (by rw [kq7]; decide)).trans kq7
    have kq9 := (he q9 (by rw [kq9]; decide)).trans kq9
    have kq11 := (he q11 (by rw [kq11]; decide)).trans kq11
    have kq13 := (he q13 (by rw [kq13]; decide)).trans kq13
    have kq15 := (he q15 (by rw [kq15]; decide)).trans kq15
    have kq1 := (he q1 (by rw [kq1]; decide)).trans kq1
    have kq4 := (he q4 (by rw [kq4]; decide)).trans kq4
    refine ci_put (ci := 10) (C := RX10) (T := TX10) (N := 11) hx hb hts hin10 tyX10 tyX10_ok nmX10 hown hK hC hS rfl rfl 7 (by decide) rfl hfl69 (Or.inr ⟨rfl, hname, rfl⟩) (v := .ref q45) rfl rfl dX10_init_149 (fun H locs hC hS => ?_)
    refine lv_aload_n hx hb dX10_init_152 rfl (lv_at hl 1 rfl) ?_
    refine ci_newR (cj := 8) (C := RX8) (T := TX8) (N := 7) hx hb hts hin8 tyX8 tyX8_ok hown hcl73 his8 hiniX8_init hK hC hS rfl rfl (Nat.le_of_ble_eq_true rfl) (Nat.le_of_ble_eq_true rfl) dX10_init_153 (fun q51 H hC hoq51 hkq51 hlq51 hzq51 hnq51 hS => ?_)
    refine W.widen (k := 97) (n := 497) (by omega) (by omega) ?_
    refine lv_dup hx hb dX10_init_156 rfl ?_
    refine lv_aload_n hx hb dX10_init_157 rfl (lv_at hl 1 rfl) ?_
    refine ci_get (ci := 10) (C := RX10) (T := TX10) (N := 11) (v := .ref q45) hx hb hts hin10 hown hK hC rfl rfl 7 (by decide) rfl hfl69 rfl dX10_init_158 ?_
    refine lv_aload_n hx hb dX10_init_161 rfl (lv_at hl 1 rfl) ?_
    refine ci_get (ci := 10) (C := RX10) (T := TX10) (N := 11) (v := .ref q9) hx hb hts hin10 hown hK hC rfl rfl 3 (by decide) rfl hfl33 rfl dX10_init_162 ?_
    refine lv_aload_n hx hb dX10_init_165 rfl (lv_at hl 1 rfl) ?_
    refine ci_get (ci := 10) (C := RX10) (T := TX10) (N := 11) (v := .ref q7) hx hb hts hin10 hown hK hC rfl rfl 2 (by decide) rfl hfl26 rfl dX10_init_166 ?_
    refine ci_ctor (K := 9) (va_runI (As := [.ref q45, .ref q9, .ref q7]) (rest := [.ref q51, .ref h0]) ⟨hx, hb, hml, hown, hts⟩ (c_X8_init l D cy κ50 H.size q51 hkq51 hlq51 q45 kq45 q9 kq9 q7 kq7) (cwI 3 hts gX10_init_X8_init rfl rfl rfl hiniX8_init hml75 himX8_init rfl (by decide +kernel) ⟨Nat.le_of_ble_eq_true rfl, Nat.le_of_ble_eq_true rfl⟩) (ci_pre hK hN hC hoq51) rfl rfl hl.1 rfl (lv_room (Nat.le_of_ble_eq_true rfl)) dX10_init_169 ⟨Nat.le_of_ble_eq_true rfl, Nat.le_of_ble_eq_true rfl⟩) hC hS hzq51 (Or.inl (by unfold sing; decide)) hnq51 (fun κ52 H locs hC he kq51 hS => ?_)
    refine W.widen (k := 127) (n := 841) (by omega) (by omega) ?_
    have kq7 := (he q7 (by rw [kq7]; decide)).trans kq7
    have kq9 := (he q9 (by rw [kq9]; decide)).trans kq9
    have kq11 := (he q11 (by rw [kq11]; decide)).trans kq11
    have kq13 := (he q13 (by rw [kq13]; decide)).trans kq13
    have kq15 := (he q15 (by rw [kq15]; decide)).trans kq15
    have kq1 := (he q1 (by rw [kq1]; decide)).trans kq1
    have kq4 := (he q4 (by rw [kq4]; decide)).trans kq4
    have kq45 := (he q45 (by rw [kq45]; decide)).trans kq45
    refine ci_put (ci := 10) (C := RX10) (T := TX10) (N := 11) hx hb hts hin10 tyX10 tyX10_ok nmX10 hown hK hC hS rfl rfl 8 (by decide) rfl hfl78 (Or.inr ⟨rfl, hname, rfl⟩) (v := .ref q51) rfl rfl dX10_init_172 (fun H locs hC hS => ?_)
    have h0n := hC.2.2.1
    have hV : ∀ k, k < 11 → fsp (va_up κ52 h0 (10 + 1)) Z0 (10 + 1) k h0 ((updV (updV (updV (updV (updV (updV (updV (updV (updV (updV (updV (fun k => defaultValue (tyX10 k)) 0 (.ref q1)) 1 (.ref q4)) 2 (.ref q7)) 3 (.ref q9)) 4 (.ref q11)) 5 (.ref q13)) 6 (.ref q15)) 9 (.int (0 : Int32))) 10 (.int (0 : Int32))) 7 (.ref q45)) 8 (.ref q51)) k) := by
      intro k hk
      rcases (show k = 0 ∨ k = 1 ∨ k = 2 ∨ k = 3 ∨ k = 4 ∨ k = 5 ∨ k = 6 ∨ k = 7 ∨ k = 8 ∨ k = 9 ∨ k = 10 by omega) with rfl | rfl | rfl | rfl | rfl | rfl | rfl | rfl | rfl | rfl | rfl
      · exact ⟨q1, rfl, (ext.up h0n q1 (by rw [kq1]; decide)).trans kq1⟩
      · exact ⟨q4, rfl, (ext.up h0n q4 (by rw [kq4]; decide)).trans kq4⟩
      · exact ⟨q7, rfl, (ext.up h0n q7 (by rw [kq7]; decide)).trans kq7⟩
      · exact ⟨q9, rfl, (ext.up h0n q9 (by rw [kq9]; decide)).trans kq9⟩
      · exact ⟨q11, rfl, (ext.up h0n q11 (by rw [kq11]; decide)).trans kq11⟩
      · exact ⟨q13, rfl, (ext.up h0n q13 (by rw [kq13]; decide)).trans kq13⟩
      · exact ⟨q15, rfl, (ext.up h0n q15 (by rw [kq15]; decide)).trans kq15⟩
      · exact ⟨q45, rfl, (ext.up h0n q45 (by rw [kq45]; decide)).trans kq45⟩
      · exact ⟨q51, rfl, (ext.up h0n q51 (by rw [kq51]; decide)).trans kq51⟩
      · exact ⟨_, rfl, rfl, by decide⟩
      · exact ⟨_, rfl, rfl, by decide⟩
    obtain ⟨s1, s2, s3, s4, s5⟩ := hC.seal (by decide) hV (fun _ b hb => by
      have hsx : sing (κ52 b) := by rw [hb]; unfold sing; omega
      rcases hC.2.2.2.2.2.1 b hsx with h | h
      · exact hsg0 b (h.trans hb)
      · rw [hb] at h; cases h)
    exact hret H locs ls 175 _ dX10_init_175 ⟨s2, s3, s4, s5⟩ s1 hS
  exact main s.heap [] hC va_S.rf
