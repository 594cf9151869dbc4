abbrev rmX8_init : Room := { frames := 3, cells := 30, slots := 344, locals := 73 }
set_option maxHeartbeats 4000000 in
set_option maxRecDepth 100000 in
theorem c_X8_init (l : Launch) (D : va_G) (cy : Nat → ClassId) (κ0 : Nat → Nat) (sz h0 : Nat) (hk0 : κ0 h0 = 0) (hlt : h0 < sz) (p1 : Nat) (kp1 : κ0 p1 = 3) (p2 : Nat) (kp2 : κ0 p2 = 5) (p3 : Nat) (kp3 : κ0 p3 = 2) : Met l yX8_init wsX8_init rmX8_init (va_Pc [.ref h0, .ref p1, .ref p2, .ref p3] (CP D cy κ0 sz h0 8 (fun k => defaultValue (tyX8 k)))) (va_Qv (fun κ' => COk κ0 sz h0 (8 + 1) κ') (fun κ' t => CQ D cy κ' t) (AC κ0 h0 sz)) 30 344 (AC κ0 h0 sz) := by
  refine Met.twc (cc := cX8_init) (maxL := 4) (by decide) rfl rfl (Nat.le_of_ble_eq_true rfl) hk0 hlt ?_
  intro p e s m args below meth c Q hx hb hml hown hts hname hK hN hC hret ls hl
  have hl : lv_has ls 4 [(0, .ref h0), (1, .ref p1), (2, .ref p2), (3, .ref p3)] := hl
  have hoi1 := hts (.methodLink RX8 3 objectInit) (by decide +kernel)
  have hoi2 := hts (.instanceMethod objectInit) (by decide +kernel)
  have hoi3 := hts (.code objectInit ⟨#[0xb1]⟩ 1 none) (by decide +kernel)
  have hin7 : ∀ w ∈ u_ws RX7 TX7 2, w ∈ wsX8_init := by decide +kernel
  have hcl9 := hts (.classLink RX8 9 RX7) (by decide +kernel)
  have his7 := hts (.instantiable RX7 2) (by decide +kernel)
  have hiniX7_init := hts (.initialized RX7) (by decide +kernel)
  have himX7_init := hts (.instanceMethod yX7_init) (by decide +kernel)
  have hml11 := hts (.methodLink RX8 11 yX7_init) (by decide +kernel)
  have hin8 : ∀ w ∈ u_ws RX8 TX8 7, w ∈ wsX8_init := by decide +kernel
  have hfl12 := hts (.fieldLink RX8 12 "PlyPlates$Search" "tried" "LPlyPlates$Plate;") (by decide +kernel)
  have hfl18 := hts (.fieldLink RX8 18 "PlyPlates$Search" "gathered" "LPlyPlates$Plate;") (by decide +kernel)
  have hacint := hts (.arrayClass .int) (by decide +kernel)
  have hfl21 := hts (.fieldLink RX8 21 "PlyPlates$Search" "perWay" "[I") (by decide +kernel)
  have hfl25 := hts (.fieldLink RX8 25 "PlyPlates$Search" "known" "[I") (by decide +kernel)
  have hfl28 := hts (.fieldLink RX8 28 "PlyPlates$Search" "flat" "LPlyPlates$Flat;") (by decide +kernel)
  have hfl32 := hts (.fieldLink RX8 32 "PlyPlates$Search" "layRules" "LPlyPlates$LayRules;") (by decide +kernel)
  have hfl36 := hts (.fieldLink RX8 36 "PlyPlates$Search" "cases" "LPlyPlates$Cases;") (by decide +kernel)
  have main : ∀ (H : Heap) (locs : List Loc), CI D cy κ0 sz h0 8 κ0 (fun _ => none) (fun k => defaultValue (tyX8 k)) H → va_S (AC κ0 h0 sz) s.heap H locs → W p l e rmX8_init s m args below meth c H locs 0 0 Q (F0 m 0 ls []) := by
    intro H locs hC hS
    refine lv_aload_n hx hb dX8_init_0 rfl (lv_at hl 0 rfl) ?_
    refine W.objInit hx hb hown hoi1 hoi2 hoi3 rfl (by rw [hml]; exact hl.1) rfl dX8_init_1 (Nat.le_of_ble_eq_true rfl) (Nat.le_of_ble_eq_true rfl) ?_
    refine W.eq (g2 := F0 m 4 ls []) rfl ?_
    refine lv_aload_n hx hb dX8_init_4 rfl (lv_at hl 0 rfl) ?_
    refine ci_newR (cj := 7) (C := RX7) (T := TX7) (N := 2) hx hb hts hin7 tyX7 tyX7_ok hown hcl9 his7 hiniX7_init hK hC hS rfl rfl (Nat.le_of_ble_eq_true rfl) (Nat.le_of_ble_eq_true rfl) dX8_init_5 (fun q1 H hC hoq1 hkq1 hlq1 hzq1 hnq1 hS => ?_)
    refine W.widen (k := 1) (n := 2) (by omega) (by omega) ?_
    refine lv_dup hx hb dX8_init_8 rfl ?_
    refine ci_ctor (K := 8) (va_runI (As := []) (rest := [.ref q1, .ref h0]) ⟨hx, hb, hml, hown, hts⟩ (c_X7_init l D cy κ0 H.size q1 hkq1 hlq1) (cwI 0 hts gX8_init_X7_init rfl rfl rfl hiniX7_init hml11 himX7_init rfl (by decide +kernel) ⟨Nat.le_of_ble_eq_true rfl, Nat.le_of_ble_eq_true rfl⟩) (ci_pre hK hN hC hoq1) rfl rfl hl.1 rfl (lv_room (Nat.le_of_ble_eq_true rfl)) dX8_init_9 ⟨Nat.le_of_ble_eq_true rfl, Nat.le_of_ble_eq_true rfl⟩) hC hS hzq1 (Or.inl (by unfold sing; decide)) hnq1 (fun κ2 H locs hC he kq1 hS => ?_)
    refine W.widen (k := 14) (n := 62) (by omega) (by omega) ?_
    have kp1 := (he p1 (by rw [kp1]; decide)).trans kp1
    have kp2 := (he p2 (by rw [kp2]; decide)).trans kp2
    have kp3 := (he p3 (by rw [kp3]; decide)).trans kp3
    refine ci_put (ci := 8) (C := RX8) (T := TX8) (N := 7) hx hb hts hin8 tyX8 tyX8_ok nmX8 hown hK hC hS rfl rfl 3 (by decide) rfl hfl12 (Or.inr ⟨rfl, hname, rfl⟩) (v := .ref q1) rfl rfl dX8_init_12 (fun H locs hC hS => ?_)
    refine lv_aload_n hx hb dX8_init_15 rfl (lv_at hl 0 rfl) ?_
    refine ci_newR (cj := 7) (C := RX7) (T := TX7) (N := 2) hx hb hts hin7 tyX7 tyX7_ok hown hcl9 his7 hiniX7_init hK hC hS rfl rfl (Nat.le_of_ble_eq_true rfl) (Nat.le_of_ble_eq_true rfl) dX8_init_16 (fun q3 H hC hoq3 hkq3 hlq3 hzq3 hnq3 hS => ?_)
    refine W.widen (k := 15) (n := 64) (by omega) (by omega) ?_
    refine lv_dup hx hb dX8_init_19 rfl ?_
    refine ci_ctor (K := 8) (va_runI (As := []) (rest := [.ref q3, .ref h0]) ⟨hx, hb, hml, hown, hts⟩ (c_X7_init l D cy κ2 H.size q3 hkq3 hlq3) (cwI 0 hts gX8_init_X7_init rfl rfl rfl hiniX7_init hml11 himX7_init rfl (by decide +kernel) ⟨Nat.le_of_ble_eq_true rfl, Nat.le_of_ble_eq_true rfl⟩) (ci_pre hK hN hC hoq3) rfl rfl hl.1 rfl (lv_room (Nat.le_of_ble_eq_true rfl)) dX8_init_20 ⟨Nat.le_of_ble_eq_true rfl, Nat.le_of_ble_eq_true rfl⟩) hC hS hzq3 (Or.inl (by unfold sing; decide)) hnq3 (fun κ4 H locs hC he kq3 hS => ?_)
    refine W.widen (k := 28) (n := 124) (by omega) (by omega) ?_
    have kp1 := (he p1 (by rw [kp1]; decide)).trans kp1
    have kp2 := (he p2 (by rw [kp2]; decide)).trans kp2
    have kp3 := (he p3 (by rw [kp3]; decide)).trans kp3
    have kq1 := (he q1 (by rw [kq1]; decide)).trans kq1
    refine ci_put (ci := 8) (C := RX8) (T := TX8) (N := 7) hx hb hts hin8 tyX8 tyX8_ok nmX8 hown hK hC hS rfl rfl 4 (by decide) rfl hfl18 (Or.inr ⟨rfl, hname, rfl⟩) (v := .ref q3) rfl rfl dX8_init_23 (fun H locs hC hS => ?_)
    refine lv_aload_n hx hb dX8_init_26 rfl (lv_at hl 0 rfl) ?_
    refine lv_iconst (v := (4 : Int32)) hx hb dX8_init_27 (by decide) ?_
    refine ci_newI (K := 1004) (N := 4) hx hb hacint hK hC hS (by decide) rfl rfl (by unfold sing; decide) (fun _ j _ => ⟨_, rfl, trivial⟩) (by decide) (by decide) (by decide) (Nat.le_of_ble_eq_true rfl) (Nat.le_of_ble_eq_true rfl) dX8_init_28 (fun q5 κ6 H hC he kq5 hS => ?_)
    refine W.widen (k := 29) (n := 128) (by omega) (by omega) ?_
    have kp1 := (he p1 (by rw [kp1]; decide)).trans kp1
    have kp2 := (he p2 (by rw [kp2]; decide)).trans kp2
    have kp3 := (he p3 (by rw [kp3]; decide)).trans kp3
    have kq1 := (he q1 (by rw [kq1]; decide)).trans kq1
    have kq3 := (he q3 (by rw [kq3]; decide)).trans kq3
    refine ci_put (ci := 8) (C := RX8) (T := TX8) (N := 7) hx hb hts hin8 tyX8 tyX8_ok nmX8 hown hK hC hS rfl rfl 5 (by decide) rfl hfl21 (Or.inr ⟨rfl, hname, rfl⟩) (v := .ref q5) rfl rfl dX8_init_30 (fun H locs hC hS => ?_)
    refine lv_aload_n hx hb dX8_init_33 rfl (lv_at hl 0 rfl) ?_
    refine lv_sipush (v := (216 : Int32)) hx hb dX8_init_34 (by decide) ?_
    refine ci_newI (K := 1216) (N := 216) hx hb hacint hK hC hS (by decide) rfl rfl (by unfold sing; decide) (fun _ j _ => ⟨_, rfl, trivial⟩) (by decide) (by decide) (by decide) (Nat.le_of_ble_eq_true rfl) (Nat.le_of_ble_eq_true rfl) dX8_init_37 (fun q7 κ8 H hC he kq7 hS => ?_)
    refine W.widen (k := 30) (n := 344) (by omega) (by omega) ?_
    have kp1 := (he p1 (by rw [kp1]; decide)).trans kp1
    have kp2 := (he p2 (by rw [kp2]; decide)).trans kp2
    have kp3 := (he p3 (by rw [kp3]; decide)).trans kp3
    have kq1 := (he q1 (by rw [kq1]; decide)).trans kq1
    have kq3 := (he q3 (by rw [kq3]; decide)).trans kq3
    have kq5 := (he q5 (by rw [kq5]; decide)).trans kq5
    refine ci_put (ci := 8) (C := RX8) (T := TX8) (N := 7) hx hb hts hin8 tyX8 tyX8_ok nmX8 hown hK hC hS rfl rfl 6 (by decide) rfl hfl25 (Or.inr ⟨rfl, hname, rfl⟩) (v := .ref q7) rfl rfl dX8_init_39 (fun H locs hC hS => ?_)
    refine lv_aload_n hx hb dX8_init_42 rfl (lv_at hl 0 rfl) ?_
    refine lv_aload_n hx hb dX8_init_43 rfl (lv_at hl 1 rfl) ?_
    refine ci_put (ci := 8) (C := RX8) (T := TX8) (N := 7) hx hb hts hin8 tyX8 tyX8_ok nmX8 hown hK hC hS rfl rfl 0 (by decide) rfl hfl28 (Or.inr ⟨rfl, hname, rfl⟩) (v := .ref p1) rfl rfl dX8_init_44 (fun H locs hC hS => ?_)
    refine lv_aload_n hx hb dX8_init_47 rfl (lv_at hl 0 rfl) ?_
    refine lv_aload_n hx hb dX8_init_48 rfl (lv_at hl 2 rfl) ?_
    refine ci_put (ci := 8) (C := RX8) (T := TX8) (N := 7) hx hb hts hin8 tyX8 tyX8_ok nmX8 hown hK hC hS rfl rfl 1 (by decide) rfl hfl32 (Or.inr ⟨rfl, hname, rfl⟩) (v := .ref p2) rfl rfl dX8_init_49 (fun H locs hC hS => ?_)
    refine lv_aload_n hx hb dX8_init_52 rfl (lv_at hl 0 rfl) ?_
    refine lv_aload_n hx hb dX8_init_53 rfl (lv_at hl 3 rfl) ?_
    refine ci_put (ci := 8) (C := RX8) (T := TX8) (N := 7) hx hb hts hin8 tyX8 tyX8_ok nmX8 hown hK hC hS rfl rfl 2 (by decide) rfl hfl36 (Or.inr ⟨rfl, hname, rfl⟩) (v := .ref p3) rfl rfl dX8_init_54 (fun H locs hC hS => ?_)
    have h0n := hC.2.2.1
    have hV : ∀ k, k < 7 → fsp (va_up κ8 h0 (8 + 1)) Z0 (8 + 1) k h0 ((updV (updV (updV (updV (updV (updV (updV (fun k => defaultValue (tyX8 k)) 3 (.ref q1)) 4 (.ref q3)) 5 (.ref q5)) 6 (.ref q7)) 0 (.ref p1)) 1 (.ref p2)) 2 (.ref p3)) k) := by
      intro k hk
      rcases (show k = 0 ∨ k = 1 ∨ k = 2 ∨ k = 3 ∨ k = 4 ∨ k = 5 ∨ k = 6 by omega) with rfl | rfl | rfl | rfl | rfl | rfl | rfl
      · exact ⟨p1, rfl, (ext.up h0n p1 (by rw [kp1]; decide)).trans kp1⟩
      · exact ⟨p2, rfl, (ext.up h0n p2 (by rw [kp2]; decide)).trans kp2⟩
      · exact ⟨p3, rfl, (ext.up h0n p3 (by rw [kp3]; decide)).trans kp3⟩
      · exact ⟨q1, rfl, (ext.up h0n q1 (by rw [kq1]; decide)).trans kq1⟩
      · exact ⟨q3, rfl, (ext.up h0n q3 (by rw [kq3]; decide)).trans kq3⟩
      · exact ⟨q5, rfl, (ext.up h0n q5 (by rw [kq5]; decide)).trans kq5⟩
      · exact ⟨q7, rfl, (ext.up h0n q7 (by rw [kq7]; decide)).trans kq7⟩
    obtain ⟨s1, s2, s3, s4, s5⟩ := hC.seal (by decide) hV (by unfold sing; omega)
    exact hret H locs ls 57 _ dX8_init_57 ⟨s2, s3, s4, s5⟩ s1 hS
  exact main s.heap [] hC va_S.rf
