abbrev rmX9_init : Room := { frames := 1, cells := 1, slots := 5, locals := 32 }
set_option maxHeartbeats 4000000 in
set_option maxRecDepth 100000 in
theorem c_X9_init (l : Launch) (D : va_G) (cy : Nat → ClassId) (κ0 : Nat → Nat) (sz h0 : Nat) (hk0 : κ0 h0 = 0) (hlt : h0 < sz)  : Met l yX9_init wsX9_init rmX9_init (va_Pc [.ref h0] (CP D cy κ0 sz h0 9 (fun k => defaultValue (tyX9 k)))) (va_Qv (fun κ' => COk κ0 sz h0 (9 + 1) κ') (fun κ' t => CQ D cy κ' t) (AC κ0 h0 sz)) 1 5 (AC κ0 h0 sz) := by
  refine Met.twc (cc := cX9_init) (maxL := 1) (by decide) rfl rfl (Nat.le_of_ble_eq_true rfl) hk0 hlt ?_
  intro p e s m args below meth c Q hx hb hml hown hts hname hK hN hC hret ls hl
  have hl : lv_has ls 1 [(0, .ref h0)] := hl
  have hoi1 := hts (.methodLink RX9 3 objectInit) (by decide +kernel)
  have hoi2 := hts (.instanceMethod objectInit) (by decide +kernel)
  have hoi3 := hts (.code objectInit ⟨#[0xb1]⟩ 1 none) (by decide +kernel)
  have hin9 : ∀ w ∈ u_ws RX9 TX9 7, w ∈ wsX9_init := by decide +kernel
  have hfl9 := hts (.fieldLink RX9 9 "PlyPlates$Stuff" "q11" "I") (by decide +kernel)
  have hfl15 := hts (.fieldLink RX9 15 "PlyPlates$Stuff" "q22" "I") (by decide +kernel)
  have hfl18 := hts (.fieldLink RX9 18 "PlyPlates$Stuff" "q12" "I") (by decide +kernel)
  have hfl21 := hts (.fieldLink RX9 21 "PlyPlates$Stuff" "q66" "I") (by decide +kernel)
  have hfl24 := hts (.fieldLink RX9 24 "PlyPlates$Stuff" "along" "I") (by decide +kernel)
  have hfl27 := hts (.fieldLink RX9 27 "PlyPlates$Stuff" "across" "I") (by decide +kernel)
  have hacint := hts (.arrayClass .int) (by decide +kernel)
  have hfl30 := hts (.fieldLink RX9 30 "PlyPlates$Stuff" "strengths" "[I") (by decide +kernel)
  have main : ∀ (H : Heap) (locs : List Loc), CI D cy κ0 sz h0 9 κ0 (fun _ => none) (fun k => defaultValue (tyX9 k)) H → va_S (AC κ0 h0 sz) s.heap H locs → W p l e rmX9_init s m args below meth c H locs 0 0 Q (F0 m 0 ls []) := by
    intro H locs hC hS
    refine lv_aload_n hx hb dX9_init_0 rfl (lv_at hl 0 rfl) ?_
    refine W.objInit hx hb hown hoi1 hoi2 hoi3 rfl (by rw [hml]; exact hl.1) rfl dX9_init_1 (Nat.le_of_ble_eq_true rfl) (Nat.le_of_ble_eq_true rfl) ?_
    refine W.eq (g2 := F0 m 4 ls []) rfl ?_
    refine lv_aload_n hx hb dX9_init_4 rfl (lv_at hl 0 rfl) ?_
    refine lv_iconst (v := (1 : Int32)) hx hb dX9_init_5 (by decide) ?_
    refine ci_put (ci := 9) (C := RX9) (T := TX9) (N := 7) hx hb hts hin9 tyX9 tyX9_ok nmX9 hown hK hC hS rfl rfl 0 (by decide) rfl hfl9 (Or.inl rfl) (v := .int (1 : Int32)) rfl rfl dX9_init_6 (fun H locs hC hS => ?_)
    refine lv_aload_n hx hb dX9_init_9 rfl (lv_at hl 0 rfl) ?_
    refine lv_iconst (v := (1 : Int32)) hx hb dX9_init_10 (by decide) ?_
    refine ci_put (ci := 9) (C := RX9) (T := TX9) (N := 7) hx hb hts hin9 tyX9 tyX9_ok nmX9 hown hK hC hS rfl rfl 1 (by decide) rfl hfl15 (Or.inl rfl) (v := .int (1 : Int32)) rfl rfl dX9_init_11 (fun H locs hC hS => ?_)
    refine lv_aload_n hx hb dX9_init_14 rfl (lv_at hl 0 rfl) ?_
    refine lv_iconst (v := (0 : Int32)) hx hb dX9_init_15 (by decide) ?_
    refine ci_put (ci := 9) (C := RX9) (T := TX9) (N := 7) hx hb hts hin9 tyX9 tyX9_ok nmX9 hown hK hC hS rfl rfl 2 (by decide) rfl hfl18 (Or.inl rfl) (v := .int (0 : Int32)) rfl rfl dX9_init_16 (fun H locs hC hS => ?_)
    refine lv_aload_n hx hb dX9_init_19 rfl (lv_at hl 0 rfl) ?_
    refine lv_iconst (v := (1 : Int32)) hx hb dX9_init_20 (by decide) ?_
    refine ci_put (ci := 9) (C := RX9) (T := TX9) (N := 7) hx hb hts hin9 tyX9 tyX9_ok nmX9 hown hK hC hS rfl rfl 3 (by decide) rfl hfl21 (Or.inl rfl) (v := .int (1 : Int32)) rfl rfl dX9_init_21 (fun H locs hC hS => ?_)
    refine lv_aload_n hx hb dX9_init_24 rfl (lv_at hl 0 rfl) ?_
    refine lv_iconst (v := (0 : Int32)) hx hb dX9_init_25 (by decide) ?_
    refine ci_put (ci := 9) (C := RX9) (T := TX9) (N := 7) hx hb hts hin9 tyX9 tyX9_ok nmX9 hown hK hC hS rfl rfl 4 (by decide) rfl hfl24 (Or.inl rfl) (v := .int (0 : Int32)) rfl rfl dX9_init_26 (fun H locs hC hS => ?_)
    refine lv_aload_n hx hb dX9_init_29 rfl (lv_at hl 0 rfl) ?_
    refine lv_iconst (v := (0 : Int32)) hx hb dX9_init_30 (by decide) ?_
    refine ci_put (ci := 9) (C := RX9) (T := TX9) (N := 7) hx hb hts hin9 tyX9 tyX9_ok nmX9 hown hK hC hS rfl rfl 5 (by decide) rfl hfl27 (Or.inl rfl) (v := .int (0 : Int32)) rfl rfl dX9_init_31 (fun H locs hC hS => ?_)
    refine lv_aload_n hx hb dX9_init_34 rfl (lv_at hl 0 rfl) ?_
    refine lv_iconst (v := (5 : Int32)) hx hb dX9_init_35 (by decide) ?_
    refine ci_newI (K := 1005) (N := 5) hx hb hacint hK hC hS (by decide) rfl rfl (by unfold sing; decide) (fun _ j _ => ⟨_, rfl, trivial⟩) (by decide) (by decide) (by decide) (Nat.le_of_ble_eq_true rfl) (Nat.le_of_ble_eq_true rfl) dX9_init_36 (fun q1 κ2 H hC he kq1 hS => ?_)
    refine W.widen (k := 1) (n := 5) (by omega) (by omega) ?_
    refine ci_put (ci := 9) (C := RX9) (T := TX9) (N := 7) hx hb hts hin9 tyX9 tyX9_ok nmX9 hown hK hC hS rfl rfl 6 (by decide) rfl hfl30 (Or.inr ⟨rfl, hname, rfl⟩) (v := .ref q1) rfl rfl dX9_init_38 (fun H locs hC hS => ?_)
    have h0n := hC.2.2.1
    have hV : ∀ k, k < 7 → fsp (va_up κ2 h0 (9 + 1)) Z0 (9 + 1) k h0 ((updV (updV (updV (updV (updV (updV (updV (fun k => defaultValue (tyX9 k)) 0 (.int (1 : Int32))) 1 (.int (1 : Int32))) 2 (.int (0 : Int32))) 3 (.int (1 : Int32))) 4 (.int (0 : Int32))) 5 (.int (0 : Int32))) 6 (.ref q1)) k) := by
      intro k hk
      rcases (show k = 0 ∨ k = 1 ∨ k = 2 ∨ k = 3 ∨ k = 4 ∨ k = 5 ∨ k = 6 by omega) with rfl | rfl | rfl | rfl | rfl | rfl | rfl
      · exact ⟨_, rfl, trivial⟩
      · exact ⟨_, rfl, trivial⟩
      · exact ⟨_, rfl, trivial⟩
      · exact ⟨_, rfl, trivial⟩
      · exact ⟨_, rfl, trivial⟩
      · exact ⟨_, rfl, trivial⟩
      · exact ⟨q1, rfl, (ext.up h0n q1 (by rw [kq1]; decide)).trans kq1⟩
    obtain ⟨s1, s2, s3, s4, s5⟩ := hC.seal (by decide) hV (by unfold sing; omega)
    exact hret H locs ls 41 _ dX9_init_41 ⟨s2, s3, s4, s5⟩ s1 hS
  exact main s.heap [] hC va_S.rf
abbrev rmX0_init : Room := { frames := 1, cells := 3, slots := 72, locals := 32 }
set_option maxHeartbeats 4000000 in
set_option maxRecDepth 100000 in
theorem c_X0_init (l : Launch) (D : va_G) (cy : Nat → ClassId) (κ0 : Nat → Nat) (sz h0 : Nat) (hk0 : κ0 h0 = 0) (hlt : h0 < sz)  : Met l yX0_init wsX0_init rmX0_init (va_Pc [.ref h0] (CP D cy κ0 sz h0 0 (fun k => defaultValue (tyX0 k)))) (va_Qv (fun κ' => COk κ0 sz h0 (0 + 1) κ') (fun κ' t => CQ D cy κ' t) (AC κ0 h0 sz)) 3 72 (AC κ0 h0 sz) := by
  refine Met.twc (cc := cX0_init) (maxL := 1) (by decide) rfl rfl (Nat.le_of_ble_eq_true rfl) hk0 hlt ?_
  intro p e s m args below meth c Q hx hb hml hown hts hname hK hN hC hret ls hl
  have hl : lv_has ls 1 [(0, .ref h0)] := hl
  have hoi1 := hts (.methodLink RX0 3 objectInit) (by decide +kernel)
  have hoi2 := hts (.instanceMethod objectInit) (by decide +kernel)
  have hoi3 := hts (.code objectInit ⟨#[0xb1]⟩ 1 none) (by decide +kernel)
  have hacint := hts (.arrayClass .int) (by decide +kernel)
  have hin0 : ∀ w ∈ u_ws RX0 TX0 4, w ∈ wsX0_init := by decide +kernel
  have hfl9 := hts (.fieldLink RX0 9 "PlyPlates$BreakLog" "places" "[I") (by decide +kernel)
  have haclong := hts (.arrayClass .long) (by decide +kernel)
  have hfl15 := hts (.fieldLink RX0 15 "PlyPlates$BreakLog" "above" "[J") (by decide +kernel)
  have hfl19 := hts (.fieldLink RX0 19 "PlyPlates$BreakLog" "below" "[J") (by decide +kernel)
  have hfl22 := hts (.fieldLink RX0 22 "PlyPlates$BreakLog" "steps" "I") (by decide +kernel)
  have main : ∀ (H : Heap) (locs : List Loc), CI D cy κ0 sz h0 0 κ0 (fun _ => none) (fun k => defaultValue (tyX0 k)) H → va_S (AC κ0 h0 sz) s.heap H locs → W p l e rmX0_init s m args below meth c H locs 0 0 Q (F0 m 0 ls []) := by
    intro H locs hC hS
    refine lv_aload_n hx hb dX0_init_0 rfl (lv_at hl 0 rfl) ?_
    refine W.objInit hx hb hown hoi1 hoi2 hoi3 rfl (by rw [hml]; exact hl.1) rfl dX0_init_1 (Nat.le_of_ble_eq_true rfl) (Nat.le_of_ble_eq_true rfl) ?_
    refine W.eq (g2 := F0 m 4 ls []) rfl ?_
    refine lv_aload_n hx hb dX0_init_4 rfl (lv_at hl 0 rfl) ?_
    refine lv_bipush (v := (24 : Int32)) hx hb dX0_init_5 (by decide) ?_
    refine ci_newI (K := 1024) (N := 24) hx hb hacint hK hC hS (by decide) rfl rfl (by unfold sing; decide) (fun _ j _ => ⟨_, rfl, trivial⟩) (by decide) (by decide) (by decide) (Nat.le_of_ble_eq_true rfl) (Nat.le_of_ble_eq_true rfl) dX0_init_7 (fun q1 κ2 H hC he kq1 hS => ?_)
    refine W.widen (k := 1) (n := 24) (by omega) (by omega) ?_
    refine ci_put (ci := 0) (C := RX0) (T := TX0) (N := 4) hx hb hts hin0 tyX0 tyX0_ok nmX0 hown hK hC hS rfl rfl 0 (by decide) rfl hfl9 (Or.inr ⟨rfl, hname, rfl⟩) (v := .ref q1) rfl rfl dX0_init_9 (fun H locs hC hS => ?_)
    refine lv_aload_n hx hb dX0_init_12 rfl (lv_at hl 0 rfl) ?_
    refine lv_bipush (v := (24 : Int32)) hx hb dX0_init_13 (by decide) ?_
    refine ci_newJ (K := 2024) (N := 24) hx hb haclong hK hC hS (by decide) rfl rfl (by unfold sing; decide) (fun _ j _ => ⟨_, rfl, trivial⟩) (by decide) (by decide) (by decide) (Nat.le_of_ble_eq_true rfl) (Nat.le_of_ble_eq_true rfl) dX0_init_15 (fun q3 κ4 H hC he kq3 hS => ?_)
    refine W.widen (k := 2) (n := 48) (by omega) (by omega) ?_
    have kq1 := (he q1 (by rw [kq1]; decide)).trans kq1
    refine ci_put (ci := 0) (C := RX0) (T := TX0) (N := 4) hx hb hts hin0 tyX0 tyX0_ok nmX0 hown hK hC hS rfl rfl 1 (by decide) rfl hfl15 (Or.inr ⟨rfl, hname, rfl⟩) (v := .ref q3) rfl rfl dX0_init_17 (fun H locs hC hS => ?_)
    refine lv_aload_n hx hb dX0_init_20 rfl (lv_at hl 0 rfl) ?_
    refine lv_bipush (v := (24 : Int32)) hx hb dX0_init_21 (by decide) ?_
    refine ci_newJ (K := 2024) (N := 24) hx hb haclong hK hC hS (by decide) rfl rfl (by unfold sing; decide) (fun _ j _ => ⟨_, rfl, trivial⟩) (by decide) (by decide) (by decide) (Nat.le_of_ble_eq_true rfl) (Nat.le_of_ble_eq_true rfl) dX0_init_23 (fun q5 κ6 H hC he kq5 hS => ?_)
    refine W.widen (k := 3) (n := 72) (by omega) (by omega) ?_
    have kq1 := (he q1 (by rw [kq1]; decide)).trans kq1
    have kq3 := (he q3 (by rw [kq3]; decide)).trans kq3
    refine ci_put (ci := 0) (C := RX0) (T := TX0) (N := 4) hx hb hts hin0 tyX0 tyX0_ok nmX0 hown hK hC hS rfl rfl 2 (by decide) rfl hfl19 (Or.inr ⟨rfl, hname, rfl⟩) (v := .ref q5) rfl rfl dX0_init_25 (fun H locs hC hS => ?_)
    refine lv_aload_n hx hb dX0_init_28 rfl (lv_at hl 0 rfl) ?_
    refine lv_iconst (v := (0 : Int32)) hx hb dX0_init_29 (by decide) ?_
    refine ci_put (ci := 0) (C := RX0) (T := TX0) (N := 4) hx hb hts hin0 tyX0 tyX0_ok nmX0 hown hK hC hS rfl rfl 3 (by decide) rfl hfl22 (Or.inl rfl) (v := .int (0 : Int32)) rfl rfl dX0_init_30 (fun H locs hC hS => ?_)
    have h0n := hC.2.2.1
    have hV : ∀ k, k < 4 → fsp (va_up κ6 h0 (0 + 1)) Z0 (0 + 1) k h0 ((updV (updV (updV (updV (fun k => defaultValue (tyX0 k)) 0 (.ref q1)) 1 (.ref q3)) 2 (.ref q5)) 3 (.int (0 : Int32))) k) := by
      intro k hk
      rcases (show k = 0 ∨ k = 1 ∨ k = 2 ∨ k = 3 by omega) with rfl | rfl | rfl | rfl
      · exact ⟨q1, rfl, (ext.up h0n q1 (by rw [kq1]; decide)).trans kq1⟩
      · exact ⟨q3, rfl, (ext.up h0n q3 (by rw [kq3]; decide)).trans kq3⟩
      · exact ⟨q5, rfl, (ext.up h0n q5 (by rw [kq5]; decide)).trans kq5⟩
      · exact ⟨_, rfl, rfl, by decide⟩
    obtain ⟨s1, s2, s3, s4, s5⟩ := hC.seal (by decide) hV (by unfold sing; omega)
    exact hret H locs ls 33 _ dX0_init_33 ⟨s2, s3, s4, s5⟩ s1 hS
  exact main s.heap [] hC va_S.rf
abbrev rmX2_init : Room := { frames := 2, cells := 5, slots := 25, locals := 52 }
set_option maxHeartbeats 4000000 in
set_option maxRecDepth 100000 in
theorem c_X2_init (l : Launch) (D : va_G) (cy : Nat → ClassId) (κ0 : Nat → Nat) (sz h0 : Nat) (hk0 : κ0 h0 = 0) (hlt : h0 < sz) (p1 : Nat) (kp1 : κ0 p1 = 24) : Met l yX2_init wsX2_init rmX2_init (va_Pc [.ref h0, .ref p1] (CP D cy κ0 sz h0 2 (fun k => defaultValue (tyX2 k)))) (va_Qv (fun κ' => COk κ0 sz h0 (2 + 1) κ') (fun κ' t => CQ D cy κ' t) (AC κ0 h0 sz)) 5 25 (AC κ0 h0 sz) := by
  refine Met.twc (cc := cX2_init) (maxL := 2) (by decide) rfl rfl (Nat.le_of_ble_eq_true rfl) hk0 hlt ?_
  intro p e s m args below meth c Q hx hb hml hown hts hname hK hN hC hret ls hl
  have hl : lv_has ls 2 [(0, .ref h0), (1, .ref p1)] := hl
  have hoi1 := hts (.methodLink RX2 3 objectInit) (by decide +kernel)
  have hoi2 := hts (.instanceMethod objectInit) (by decide +kernel)
  have hoi3 := hts (.code objectInit ⟨#[0xb1]⟩ 1 none) (by decide +kernel)
  have hin6 : ∀ w ∈ u_ws RX6 TX6 4, w ∈ wsX2_init := by decide +kernel
  have hcl9 := hts (.classLink RX2 9 RX6) (by decide +kernel)
  have his6 := hts (.instantiable RX6 4) (by decide +kernel)
  have hiniX6_init := hts (.initialized RX6) (by decide +kernel)
  have himX6_init := hts (.instanceMethod yX6_init) (by decide +kernel)
  have hin2 : ∀ w ∈ u_ws RX2 TX2 13, w ∈ wsX2_init := by decide +kernel
  have hfl12 := hts (.fieldLink RX2 12 "PlyPlates$Flat" "left" "LPlyPlates$Left;") (by decide +kernel)
  have hacint := hts (.arrayClass .int) (by decide +kernel)
  have hfl18 := hts (.fieldLink RX2 18 "PlyPlates$Flat" "turned" "[I") (by decide +kernel)
  have haclong := hts (.arrayClass .long) (by decide +kernel)
  have hfl22 := hts (.fieldLink RX2 22 "PlyPlates$Flat" "adjoint" "[J") (by decide +kernel)
  have hfl26 := hts (.fieldLink RX2 26 "PlyPlates$Flat" "sums" "[J") (by decide +kernel)
  have hfl29 := hts (.fieldLink RX2 29 "PlyPlates$Flat" "above" "[J") (by decide +kernel)
  have hfl32 := hts (.fieldLink RX2 32 "PlyPlates$Flat" "below" "J") (by decide +kernel)
  have hfl36 := hts (.fieldLink RX2 36 "PlyPlates$Flat" "stress1" "J") (by decide +kernel)
  have hfl39 := hts (.fieldLink RX2 39 "PlyPlates$Flat" "stress2" "J") (by decide +kernel)
  have hfl42 := hts (.fieldLink RX2 42 "PlyPlates$Flat" "stress6" "J") (by decide +kernel)
  have hfl45 := hts (.fieldLink RX2 45 "PlyPlates$Flat" "worstPlace" "I") (by decide +kernel)
  have hfl49 := hts (.fieldLink RX2 49 "PlyPlates$Flat" "worstStress" "J") (by decide +kernel)
  have hfl52 := hts (.fieldLink RX2 52 "PlyPlates$Flat" "worstStrength" "I") (by decide +kernel)
  have hfl55 := hts (.fieldLink RX2 55 "PlyPlates$Flat" "stuffs" "[LPlyPlates$Stuff;") (by decide +kernel)
  have main : ∀ (H : Heap) (locs : List Loc), CI D cy κ0 sz h0 2 κ0 (fun _ => none) (fun k => defaultValue (tyX2 k)) H → va_S (AC κ0 h0 sz) s.heap H locs → W p l e rmX2_init s m args below meth c H locs 0 0 Q (F0 m 0 ls []) := by
    intro H locs hC hS
    refine lv_aload_n hx hb dX2_init_0 rfl (lv_at hl 0 rfl) ?_
    refine W.objInit hx hb hown hoi1 hoi2 hoi3 rfl (by rw [hml]; exact hl.1) rfl dX2_init_1 (Nat.le_of_ble_eq_true rfl) (Nat.le_of_ble_eq_true rfl) ?_
    refine W.eq (g2 := F0 m 4 ls []) rfl ?_
    refine lv_aload_n hx hb dX2_init_4 rfl (lv_at hl 0 rfl) ?_
    refine ci_newS (cj := 6) (C := RX6) (T := TX6) (N := 4) hx hb hts hin6 tyX6 tyX6_ok hown hcl9 his6 hiniX6_init hK hC hS rfl rfl (by decide) (by unfold sing; decide) (fun κ' q k hk => ?_) (Nat.le_of_ble_eq_true rfl) (Nat.le_of_ble_eq_true rfl) dX2_init_5 (fun q1 κ2 H hC he kq1 hS => ?_)
    · rcases (show k = 0 ∨ k = 1 ∨ k = 2 ∨ k = 3 by omega) with rfl | rfl | rfl | rfl <;> exact ⟨_, rfl, by first | trivial | decide⟩
    refine W.widen (k := 1) (n := 4) (by omega) (by omega) ?_
    have kp1 := (he p1 (by rw [kp1]; decide)).trans kp1
    refine lv_dup hx hb dX2_init_8 rfl ?_
    refine ci_callS ⟨hx, hb, hml, hown, hts⟩ (c_X6_init l D cy κ2 Z0 q1 kq1) ⟨va_cnB 0 hts gX2_init_X6_init_n11 rfl rfl rfl hN.1.2.2.2.2.2.2 hiniX6_init (by decide +kernel) ⟨Nat.le_of_ble_eq_true rfl, Nat.le_of_ble_eq_true rfl⟩, rfl, himX6_init⟩ hK hC hS hl.1 (Nat.le_of_ble_eq_true rfl) dX2_init_9 ⟨Nat.le_of_ble_eq_true rfl, Nat.le_of_ble_eq_true rfl⟩ (fun H locs hC hS => ?_)
    refine ci_put (ci := 2) (C := RX2) (T := TX2) (N := 13) hx hb hts hin2 tyX2 tyX2_ok nmX2 hown hK hC hS rfl rfl 1 (by decide) rfl hfl12 (Or.inr ⟨rfl, hname, rfl⟩) (v := .ref q1) rfl rfl dX2_init_12 (fun H locs hC hS => ?_)
    refine lv_aload_n hx hb dX2_init_15 rfl (lv_at hl 0 rfl) ?_
    refine lv_bipush (v := (6 : Int32)) hx hb dX2_init_16 (by decide) ?_
    refine ci_newI (K := 1006) (N := 6) hx hb hacint hK hC hS (by decide) rfl rfl (by unfold sing; decide) (fun _ j _ => ⟨_, rfl, trivial⟩) (by decide) (by decide) (by decide) (Nat.le_of_ble_eq_true rfl) (Nat.le_of_ble_eq_true rfl) dX2_init_18 (fun q3 κ4 H hC he kq3 hS => ?_)
    refine W.widen (k := 2) (n := 10) (by omega) (by omega) ?_
    have kp1 := (he p1 (by rw [kp1]; decide)).trans kp1
    have kq1 := (he q1 (by rw [kq1]; decide)).trans kq1
    refine ci_put (ci := 2) (C := RX2) (T := TX2) (N := 13) hx hb hts hin2 tyX2 tyX2_ok nmX2 hown hK hC hS rfl rfl 2 (by decide) rfl hfl18 (Or.inr ⟨rfl, hname, rfl⟩) (v := .ref q3) rfl rfl dX2_init_20 (fun H locs hC hS => ?_)
    refine lv_aload_n hx hb dX2_init_23 rfl (lv_at hl 0 rfl) ?_
    refine lv_bipush (v := (6 : Int32)) hx hb dX2_init_24 (by decide) ?_
    refine ci_newJ (K := 2006) (N := 6) hx hb haclong hK hC hS (by decide) rfl rfl (by unfold sing; decide) (fun _ j _ => ⟨_, rfl, trivial⟩) (by decide) (by decide) (by decide) (Nat.le_of_ble_eq_true rfl) (Nat.le_of_ble_eq_true rfl) dX2_init_26 (fun q5 κ6 H hC he kq5 hS => ?_)
    refine W.widen (k := 3) (n := 16) (by omega) (by omega) ?_
    have kp1 := (he p1 (by rw [kp1]; decide)).trans kp1
    have kq1 := (he q1 (by rw [kq1]; decide)).trans kq1
    have kq3 := (he q3 (by rw [kq3]; decide)).trans kq3
    refine ci_put (ci := 2) (C := RX2) (T := TX2) (N := 13) hx hb hts hin2 tyX2 tyX2_ok nmX2 hown hK hC hS rfl rfl 3 (by decide) rfl hfl22 (Or.inr ⟨rfl, hname, rfl⟩) (v := .ref q5) rfl rfl dX2_init_28 (fun H locs hC hS => ?_)
    refine lv_aload_n hx hb dX2_init_31 rfl (lv_at hl 0 rfl) ?_
    refine lv_bipush (v := (6 : Int32)) hx hb dX2_init_32 (by decide) ?_
    refine ci_newJ (K := 2006) (N := 6) hx hb haclong hK hC hS (by decide) rfl rfl (by unfold sing; decide) (fun _ j _ => ⟨_, rfl, trivial⟩) (by decide) (by decide) (by decide) (Nat.le_of_ble_eq_true rfl) (Nat.le_of_ble_eq_true rfl) dX2_init_34 (fun q7 κ8 H hC he kq7 hS => ?_)
    refine W.widen (k := 4) (n := 22) (by omega) (by omega) ?_
    have kp1 := (he p1 (by rw [kp1]; decide)).trans kp1
    have kq1 := (he q1 (by rw [kq1]; decide)).trans kq1
    have kq3 := (he q3 (by rw [kq3]; decide)).trans kq3
    have kq5 := (he q5 (by rw [kq5]; decide)).trans kq5
    refine ci_put (ci := 2) (C := RX2) (T := TX2) (N := 13) hx hb hts hin2 tyX2 tyX2_ok nmX2 hown hK hC hS rfl rfl 4 (by decide) rfl hfl26 (Or.inr ⟨rfl, hname, rfl⟩) (v := .ref q7) rfl rfl dX2_init_36 (fun H locs hC hS => ?_)
    refine lv_aload_n hx hb dX2_init_39 rfl (lv_at hl 0 rfl) ?_
    refine lv_iconst (v := (3 : Int32)) hx hb dX2_init_40 (by decide) ?_
    refine ci_newJ (K := 2003) (N := 3) hx hb haclong hK hC hS (by decide) rfl rfl (by unfold sing; decide) (fun _ j _ => ⟨_, rfl, trivial⟩) (by decide) (by decide) (by decide) (Nat.le_of_ble_eq_true rfl) (Nat.le_of_ble_eq_true rfl) dX2_init_41 (fun q9 κ10 H hC he kq9 hS => ?_)
    refine W.widen (k := 5) (n := 25) (by omega) (by omega) ?_
    have kp1 := (he p1 (by rw [kp1]; decide)).trans kp1
    have kq1 := (he q1 (by rw [kq1]; decide)).trans kq1
    have kq3 := (he q3 (by rw [kq3]; decide)).trans kq3
    have kq5 := (he q5 (by rw [kq5]; decide)).trans kq5
    have kq7 := (he q7 (by rw [kq7]; decide)).trans kq7
    refine ci_put (ci := 2) (C := RX2) (T := TX2) (N := 13) hx hb hts hin2 tyX2 tyX2_ok nmX2 hown hK hC hS rfl rfl 5 (by decide) rfl hfl29 (Or.inr ⟨rfl, hname, rfl⟩) (v := .ref q9) rfl rfl dX2_init_43 (fun H locs hC hS => ?_)
    refine lv_aload_n hx hb dX2_init_46 rfl (lv_at hl 0 rfl) ?_
    refine lv_lconst (v := 0) hx hb dX2_init_47 (by decide) ?_
    refine ci_put (ci := 2) (C := RX2) (T := TX2) (N := 13) hx hb hts hin2 tyX2 tyX2_ok nmX2 hown hK hC hS rfl rfl 6 (by decide) rfl hfl32 (Or.inl rfl) (v := .long (0 : Int64)) rfl rfl dX2_init_48 (fun H locs hC hS => ?_)
    refine lv_aload_n hx hb dX2_init_51 rfl (lv_at hl 0 rfl) ?_
    refine lv_lconst (v := 0) hx hb dX2_init_52 (by decide) ?_
    refine ci_put (ci := 2) (C := RX2) (T := TX2) (N := 13) hx hb hts hin2 tyX2 tyX2_ok nmX2 hown hK hC hS rfl rfl 7 (by decide) rfl hfl36 (Or.inl rfl) (v := .long (0 : Int64)) rfl rfl dX2_init_53 (fun H locs hC hS => ?_)
    refine lv_aload_n hx hb dX2_init_56 rfl (lv_at hl 0 rfl) ?_
    refine lv_lconst (v := 0) hx hb dX2_init_57 (by decide) ?_
    refine ci_put (ci := 2) (C := RX2) (T := TX2) (N := 13) hx hb hts hin2 tyX2 tyX2_ok nmX2 hown hK hC hS rfl rfl 8 (by decide) rfl hfl39 (Or.inl rfl) (v := .long (0 : Int64)) rfl rfl dX2_init_58 (fun H locs hC hS => ?_)
    refine lv_aload_n hx hb dX2_init_61 rfl (lv_at hl 0 rfl) ?_
    refine lv_lconst (v := 0) hx hb dX2_init_62 (by decide) ?_
    refine ci_put (ci := 2) (C := RX2) (T := TX2) (N := 13) hx hb hts hin2 tyX2 tyX2_ok nmX2 hown hK hC hS rfl rfl 9 (by decide) rfl hfl42 (Or.inl rfl) (v := .long (0 : Int64)) rfl rfl dX2_init_63 (fun H locs hC hS => ?_)
    refine lv_aload_n hx hb dX2_init_66 rfl (lv_at hl 0 rfl) ?_
    refine lv_iconst (v := (-1 : Int32)) hx hb dX2_init_67 (by decide) ?_
    refine ci_put (ci := 2) (C := RX2) (T := TX2) (N := 13) hx hb hts hin2 tyX2 tyX2_ok nmX2 hown hK hC hS rfl rfl 10 (by decide) rfl hfl45 (Or.inl rfl) (v := .int (-1 : Int32)) rfl rfl dX2_init_68 (fun H locs hC hS => ?_)
    refine lv_aload_n hx hb dX2_init_71 rfl (lv_at hl 0 rfl) ?_
    refine lv_lconst (v := 0) hx hb dX2_init_72 (by decide) ?_
    refine ci_put (ci := 2) (C := RX2) (T := TX2) (N := 13) hx hb hts hin2 tyX2 tyX2_ok nmX2 hown hK hC hS rfl rfl 11 (by decide) rfl hfl49 (Or.inl rfl) (v := .long (0 : Int64)) rfl rfl dX2_init_73 (fun H locs hC hS => ?_)
    refine lv_aload_n hx hb dX2_init_76 rfl (lv_at hl 0 rfl) ?_
    refine lv_iconst (v := (1 : Int32)) hx hb dX2_init_77 (by decide) ?_
    refine ci_put (ci := 2) (C := RX2) (T := TX2) (N := 13) hx hb hts hin2 tyX2 tyX2_ok nmX2 hown hK hC hS rfl rfl 12 (by decide) rfl hfl52 (Or.inl rfl) (v := .int (1 : Int32)) rfl rfl dX2_init_78 (fun H locs hC hS => ?_)
    refine lv_aload_n hx hb dX2_init_81 rfl (lv_at hl 0 rfl) ?_
    refine lv_aload_n hx hb dX2_init_82 rfl (lv_at hl 1 rfl) ?_
    refine ci_put (ci := 2) (C := RX2) (T := TX2) (N := 13) hx hb hts hin2 tyX2 tyX2_ok nmX2 hown hK hC hS rfl rfl 0 (by decide) rfl hfl55 (Or.inr ⟨rfl, hname, rfl⟩) (v := .ref p1) rfl rfl dX2_init_83 (fun H locs hC hS => ?_)
    have h0n := hC.2.2.1
    have hV : ∀ k, k < 13 → fsp (va_up κ10 h0 (2 + 1)) Z0 (2 + 1) k h0 ((updV (updV (updV (updV (updV (updV (updV (updV (updV (updV (updV (updV (updV (fun k => defaultValue (tyX2 k)) 1 (.ref q1)) 2 (.ref q3)) 3 (.ref q5)) 4 (.ref q7)) 5 (.ref q9)) 6 (.long (0 : Int64))) 7 (.long (0 : Int64))) 8 (.long (0 : Int64))) 9 (.long (0 : Int64))) 10 (.int (-1 : Int32))) 11 (.long (0 : Int64))) 12 (.int (1 : Int32))) 0 (.ref p1)) k) := by
      intro k hk
      rcases (show k = 0 ∨ k = 1 ∨ k = 2 ∨ k = 3 ∨ k = 4 ∨ k = 5 ∨ k = 6 ∨ k = 7 ∨ k = 8 ∨ k = 9 ∨ k = 10 ∨ k = 11 ∨ k = 12 by omega) with rfl | rfl | rfl | rfl | rfl | rfl | rfl | rfl | rfl | rfl | rfl | rfl | rfl
      · exact ⟨p1, rfl, (ext.up h0n p1 (by rw [kp1]; decide)).trans kp1⟩
      · exact ⟨q1, rfl, (ext.up h0n q1 (by rw [kq1]; decide)).trans kq1⟩
      · exact ⟨q3, rfl, (ext.up h0n q3 (by rw [kq3]; decide)).trans kq3⟩
      · exact ⟨q5, rfl, (ext.up h0n q5 (by rw [kq5]; decide)).trans kq5⟩
      · exact ⟨q7, rfl, (ext.up h0n q7 (by rw [kq7]; decide)).trans kq7⟩
      · exact ⟨q9, rfl, (ext.up h0n q9 (by rw [kq9]; decide)).trans kq9⟩
      · exact ⟨_, rfl, trivial⟩
      · exact ⟨_, rfl, trivial⟩
      · exact ⟨_, rfl, trivial⟩
      · exact ⟨_, rfl, trivial⟩
      · exact ⟨_, rfl, trivial⟩
      · exact ⟨_, rfl, trivial⟩
      · exact ⟨_, rfl, trivial⟩
    obtain ⟨s1, s2, s3, s4, s5⟩ := hC.seal (by decide) hV (by unfold sing; omega)
    exact hret H locs ls 86 _ dX2_init_86 ⟨s2, s3, s4, s5⟩ s1 hS
  exact main s.heap [] hC va_S.rf
