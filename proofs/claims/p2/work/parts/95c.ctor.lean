abbrev rmX7_init : Room := { frames := 2, cells := 13, slots := 60, locals := 52 }
set_option maxHeartbeats 4000000 in
set_option maxRecDepth 100000 in
theorem c_X7_init (l : Launch) (D : va_G) (cy : Nat → ClassId) (κ0 : Nat → Nat) (sz h0 : Nat) (hk0 : κ0 h0 = 0) (hlt : h0 < sz)  : Met l yX7_init wsX7_init rmX7_init (va_Pc [.ref h0] (CP D cy κ0 sz h0 7 (fun k => defaultValue (tyX7 k)))) (va_Qv (fun κ' => COk κ0 sz h0 (7 + 1) κ') (fun κ' t => CQ D cy κ' t) (AC κ0 h0 sz)) 13 60 (AC κ0 h0 sz) := by
  refine Met.twc (cc := cX7_init) (maxL := 2) (by decide) rfl rfl (Nat.le_of_ble_eq_true rfl) hk0 hlt ?_
  intro p e s m args below meth c Q hx hb hml hown hts hname hK hN hC hret ls hl
  have hl : lv_has ls 2 [(0, .ref h0)] := hl
  have hoi1 := hts (.methodLink RX7 3 objectInit) (by decide +kernel)
  have hoi2 := hts (.instanceMethod objectInit) (by decide +kernel)
  have hoi3 := hts (.code objectInit ⟨#[0xb1]⟩ 1 none) (by decide +kernel)
  have hcl9 := hts (.classLink RX7 9 RX5) (by decide +kernel)
  have hin7 : ∀ w ∈ u_ws RX7 TX7 2, w ∈ wsX7_init := by decide +kernel
  have hfl11 := hts (.fieldLink RX7 11 "PlyPlates$Plate" "layers" "[LPlyPlates$Layer;") (by decide +kernel)
  have hfl17 := hts (.fieldLink RX7 17 "PlyPlates$Plate" "size" "I") (by decide +kernel)
  have hin5 : ∀ w ∈ u_ws RX5 TX5 4, w ∈ wsX7_init := by decide +kernel
  have his5 := hts (.instantiable RX5 4) (by decide +kernel)
  have hiniX5_init := hts (.initialized RX5) (by decide +kernel)
  have himX5_init := hts (.instanceMethod yX5_init) (by decide +kernel)
  have main : ∀ (H : Heap) (locs : List Loc), CI D cy κ0 sz h0 7 κ0 (fun _ => none) (fun k => defaultValue (tyX7 k)) H → va_S (AC κ0 h0 sz) s.heap H locs → W p l e rmX7_init s m args below meth c H locs 0 0 Q (F0 m 0 ls []) := by
    intro H locs hC hS
    refine lv_aload_n hx hb dX7_init_0 rfl (lv_at hl 0 rfl) ?_
    refine W.objInit hx hb hown hoi1 hoi2 hoi3 rfl (by rw [hml]; exact hl.1) rfl dX7_init_1 (Nat.le_of_ble_eq_true rfl) (Nat.le_of_ble_eq_true rfl) ?_
    refine W.eq (g2 := F0 m 4 ls []) rfl ?_
    refine lv_aload_n hx hb dX7_init_4 rfl (lv_at hl 0 rfl) ?_
    refine lv_bipush (v := (12 : Int32)) hx hb dX7_init_5 (by decide) ?_
    refine ci_anew (C := RX5) (t := 2) (N := 12) hx hb hown hcl9 hN.2.1 hK rfl hC hS (by decide) (by decide) (by decide) (Nat.le_of_ble_eq_true rfl) (Nat.le_of_ble_eq_true rfl) dX7_init_7 (fun q1 ρ2 f3 H hC hrq1 hoq1 hnq1 hS => ?_)
    have hfq1 : ∀ j, j < 0 → toK κ0 6 (f3 j) := fun j hj => absurd hj (Nat.not_lt_zero j)
    refine W.widen (k := 1) (n := 12) (by omega) (by omega) ?_
    refine ci_put (ci := 7) (C := RX7) (T := TX7) (N := 2) hx hb hts hin7 tyX7 tyX7_ok nmX7 hown hK hC hS rfl rfl 0 (by decide) rfl hfl11 (Or.inr ⟨rfl, hname, rfl⟩) (v := .ref q1) rfl rfl dX7_init_10 (fun H locs hC hS => ?_)
    refine lv_aload_n hx hb dX7_init_13 rfl (lv_at hl 0 rfl) ?_
    refine lv_iconst (v := (0 : Int32)) hx hb dX7_init_14 (by decide) ?_
    refine ci_put (ci := 7) (C := RX7) (T := TX7) (N := 2) hx hb hts hin7 tyX7 tyX7_ok nmX7 hown hK hC hS rfl rfl 1 (by decide) rfl hfl17 (Or.inl rfl) (v := .int (0 : Int32)) rfl rfl dX7_init_15 (fun H locs hC hS => ?_)
    refine lv_iconst (v := (0 : Int32)) hx hb dX7_init_18 (by decide) ?_
    refine lv_istore_n (lv' := [(1, .int (0 : Int32)), (0, .ref h0)]) hx hb dX7_init_19 rfl hl (by decide) rfl (fun ls hl => ?_)
    refine lv_iload_n hx hb dX7_init_20 rfl (lv_at hl 0 rfl) ?_
    refine lv_bipush (v := (12 : Int32)) hx hb dX7_init_21 (by decide) ?_
    refine tb_icmp_ge (tgt := 45) hx hb dX7_init_23 (by decide) (fun cq => absurd cq (by decide)) (fun _ => ?_)
    refine lv_aload_n hx hb dX7_init_26 rfl (lv_at hl 1 rfl) ?_
    refine ci_get (ci := 7) (C := RX7) (T := TX7) (N := 2) (v := .ref q1) hx hb hts hin7 hown hK hC rfl rfl 0 (by decide) rfl hfl11 rfl dX7_init_27 ?_
    refine lv_iload_n hx hb dX7_init_30 rfl (lv_at hl 0 rfl) ?_
    refine ci_newS (cj := 5) (C := RX5) (T := TX5) (N := 4) hx hb hts hin5 tyX5 tyX5_ok hown hcl9 his5 hiniX5_init hK hC hS rfl rfl (by decide) (by unfold sing; decide) (fun κ' q k hk => ?_) (Nat.le_of_ble_eq_true rfl) (Nat.le_of_ble_eq_true rfl) dX7_init_31 (fun q4 κ5 H hC he kq4 hS => ?_)
    · rcases (show k = 0 ∨ k = 1 ∨ k = 2 ∨ k = 3 by omega) with rfl | rfl | rfl | rfl <;> exact ⟨_, rfl, by first | trivial | decide⟩
    refine W.widen (k := 2) (n := 16) (by omega) (by omega) ?_
    have hfq1 := fill_mono he (by decide) hfq1
    refine lv_dup hx hb dX7_init_34 rfl ?_
    refine ci_callS ⟨hx, hb, hml, hown, hts⟩ (c_X5_init l D cy κ5 Z0 q4 kq4) ⟨va_cnB 0 hts gX7_init_X5_init_n21 rfl rfl rfl hN.1.2.2.2.1 hiniX5_init (by decide +kernel) ⟨Nat.le_of_ble_eq_true rfl, Nat.le_of_ble_eq_true rfl⟩, rfl, himX5_init⟩ hK hC hS hl.1 (Nat.le_of_ble_eq_true rfl) dX7_init_35 ⟨Nat.le_of_ble_eq_true rfl, Nat.le_of_ble_eq_true rfl⟩ (fun H locs hC hS => ?_)
    refine ci_aast (t := 2) (cj := 5) (r := (RX5, TX5, 4)) hx hb hK hC hS rfl rfl kq4 (by decide) hrq1 (by decide) dX7_init_38 (fun ρ6 f7 H locs hC hrq1 ho9 h91 h92 hS => ?_)
    have hfq1 : ∀ j, j < 0 + 1 → toK κ5 6 (f7 j) := fill_step hfq1 kq4 h91 h92
    refine lv_iinc (v := (1 : Int32)) (lv' := [(1, .int (1 : Int32)), (0, .ref h0)]) hx hb dX7_init_39 hl (k := 0) rfl (by decide) (by decide) rfl (fun ls hl => ?_)
    refine lv_goto (tgt := 20) hx hb dX7_init_42 (by decide) ?_
    refine lv_iload_n hx hb dX7_init_20 rfl (lv_at hl 0 rfl) ?_
    refine lv_bipush (v := (12 : Int32)) hx hb dX7_init_21 (by decide) ?_
    refine tb_icmp_ge (tgt := 45) hx hb dX7_init_23 (by decide) (fun cq => absurd cq (by decide)) (fun _ => ?_)
    refine lv_aload_n hx hb dX7_init_26 rfl (lv_at hl 1 rfl) ?_
    refine ci_get (ci := 7) (C := RX7) (T := TX7) (N := 2) (v := .ref q1) hx hb hts hin7 hown hK hC rfl rfl 0 (by decide) rfl hfl11 rfl dX7_init_27 ?_
    refine lv_iload_n hx hb dX7_init_30 rfl (lv_at hl 0 rfl) ?_
    refine ci_newS (cj := 5) (C := RX5) (T := TX5) (N := 4) hx hb hts hin5 tyX5 tyX5_ok hown hcl9 his5 hiniX5_init hK hC hS rfl rfl (by decide) (by unfold sing; decide) (fun κ' q k hk => ?_) (Nat.le_of_ble_eq_true rfl) (Nat.le_of_ble_eq_true rfl) dX7_init_31 (fun q8 κ9 H hC he kq8 hS => ?_)
    · rcases (show k = 0 ∨ k = 1 ∨ k = 2 ∨ k = 3 by omega) with rfl | rfl | rfl | rfl <;> exact ⟨_, rfl, by first | trivial | decide⟩
    refine W.widen (k := 3) (n := 20) (by omega) (by omega) ?_
    have hfq1 := fill_mono he (by decide) hfq1
    refine lv_dup hx hb dX7_init_34 rfl ?_
    refine ci_callS ⟨hx, hb, hml, hown, hts⟩ (c_X5_init l D cy κ9 Z0 q8 kq8) ⟨va_cnB 0 hts gX7_init_X5_init_n21 rfl rfl rfl hN.1.2.2.2.1 hiniX5_init (by decide +kernel) ⟨Nat.le_of_ble_eq_true rfl, Nat.le_of_ble_eq_true rfl⟩, rfl, himX5_init⟩ hK hC hS hl.1 (Nat.le_of_ble_eq_true rfl) dX7_init_35 ⟨Nat.le_of_ble_eq_true rfl, Nat.le_of_ble_eq_true rfl⟩ (fun H locs hC hS => ?_)
    refine ci_aast (t := 2) (cj := 5) (r := (RX5, TX5, 4)) hx hb hK hC hS rfl rfl kq8 (by decide) hrq1 (by decide) dX7_init_38 (fun ρ10 f11 H locs hC hrq1 ho9 h91 h92 hS => ?_)
    have hfq1 : ∀ j, j < 1 + 1 → toK κ9 6 (f11 j) := fill_step hfq1 kq8 h91 h92
    refine lv_iinc (v := (2 : Int32)) (lv' := [(1, .int (2 : Int32)), (0, .ref h0)]) hx hb dX7_init_39 hl (k := 0) rfl (by decide) (by decide) rfl (fun ls hl => ?_)
    refine lv_goto (tgt := 20) hx hb dX7_init_42 (by decide) ?_
    refine lv_iload_n hx hb dX7_init_20 rfl (lv_at hl 0 rfl) ?_
    refine lv_bipush (v := (12 : Int32)) hx hb dX7_init_21 (by decide) ?_
    refine tb_icmp_ge (tgt := 45) hx hb dX7_init_23 (by decide) (fun cq => absurd cq (by decide)) (fun _ => ?_)
    refine lv_aload_n hx hb dX7_init_26 rfl (lv_at hl 1 rfl) ?_
    refine ci_get (ci := 7) (C := RX7) (T := TX7) (N := 2) (v := .ref q1) hx hb hts hin7 hown hK hC rfl rfl 0 (by decide) rfl hfl11 rfl dX7_init_27 ?_
    refine lv_iload_n hx hb dX7_init_30 rfl (lv_at hl 0 rfl) ?_
    refine ci_newS (cj := 5) (C := RX5) (T := TX5) (N := 4) hx hb hts hin5 tyX5 tyX5_ok hown hcl9 his5 hiniX5_init hK hC hS rfl rfl (by decide) (by unfold sing; decide) (fun κ' q k hk => ?_) (Nat.le_of_ble_eq_true rfl) (Nat.le_of_ble_eq_true rfl) dX7_init_31 (fun q12 κ13 H hC he kq12 hS => ?_)
    · rcases (show k = 0 ∨ k = 1 ∨ k = 2 ∨ k = 3 by omega) with rfl | rfl | rfl | rfl <;> exact ⟨_, rfl, by first | trivial | decide⟩
    refine W.widen (k := 4) (n := 24) (by omega) (by omega) ?_
    have hfq1 := fill_mono he (by decide) hfq1
    refine lv_dup hx hb dX7_init_34 rfl ?_
    refine ci_callS ⟨hx, hb, hml, hown, hts⟩ (c_X5_init l D cy κ13 Z0 q12 kq12) ⟨va_cnB 0 hts gX7_init_X5_init_n21 rfl rfl rfl hN.1.2.2.2.1 hiniX5_init (by decide +kernel) ⟨Nat.le_of_ble_eq_true rfl, Nat.le_of_ble_eq_true rfl⟩, rfl, himX5_init⟩ hK hC hS hl.1 (Nat.le_of_ble_eq_true rfl) dX7_init_35 ⟨Nat.le_of_ble_eq_true rfl, Nat.le_of_ble_eq_true rfl⟩ (fun H locs hC hS => ?_)
    refine ci_aast (t := 2) (cj := 5) (r := (RX5, TX5, 4)) hx hb hK hC hS rfl rfl kq12 (by decide) hrq1 (by decide) dX7_init_38 (fun ρ14 f15 H locs hC hrq1 ho9 h91 h92 hS => ?_)
    have hfq1 : ∀ j, j < 2 + 1 → toK κ13 6 (f15 j) := fill_step hfq1 kq12 h91 h92
    refine lv_iinc (v := (3 : Int32)) (lv' := [(1, .int (3 : Int32)), (0, .ref h0)]) hx hb dX7_init_39 hl (k := 0) rfl (by decide) (by decide) rfl (fun ls hl => ?_)
    refine lv_goto (tgt := 20) hx hb dX7_init_42 (by decide) ?_
    refine lv_iload_n hx hb dX7_init_20 rfl (lv_at hl 0 rfl) ?_
    refine lv_bipush (v := (12 : Int32)) hx hb dX7_init_21 (by decide) ?_
    refine tb_icmp_ge (tgt := 45) hx hb dX7_init_23 (by decide) (fun cq => absurd cq (by decide)) (fun _ => ?_)
    refine lv_aload_n hx hb dX7_init_26 rfl (lv_at hl 1 rfl) ?_
    refine ci_get (ci := 7) (C := RX7) (T := TX7) (N := 2) (v := .ref q1) hx hb hts hin7 hown hK hC rfl rfl 0 (by decide) rfl hfl11 rfl dX7_init_27 ?_
    refine lv_iload_n hx hb dX7_init_30 rfl (lv_at hl 0 rfl) ?_
    refine ci_newS (cj := 5) (C := RX5) (T := TX5) (N := 4) hx hb hts hin5 tyX5 tyX5_ok hown hcl9 his5 hiniX5_init hK hC hS rfl rfl (by decide) (by unfold sing; decide) (fun κ' q k hk => ?_) (Nat.le_of_ble_eq_true rfl) (Nat.le_of_ble_eq_true rfl) dX7_init_31 (fun q16 κ17 H hC he kq16 hS => ?_)
    · rcases (show k = 0 ∨ k = 1 ∨ k = 2 ∨ k = 3 by omega) with rfl | rfl | rfl | rfl <;> exact ⟨_, rfl, by first | trivial | decide⟩
    refine W.widen (k := 5) (n := 28) (by omega) (by omega) ?_
    have hfq1 := fill_mono he (by decide) hfq1
    refine lv_dup hx hb dX7_init_34 rfl ?_
    refine ci_callS ⟨hx, hb, hml, hown, hts⟩ (c_X5_init l D cy κ17 Z0 q16 kq16) ⟨va_cnB 0 hts gX7_init_X5_init_n21 rfl rfl rfl hN.1.2.2.2.1 hiniX5_init (by decide +kernel) ⟨Nat.le_of_ble_eq_true rfl, Nat.le_of_ble_eq_true rfl⟩, rfl, himX5_init⟩ hK hC hS hl.1 (Nat.le_of_ble_eq_true rfl) dX7_init_35 ⟨Nat.le_of_ble_eq_true rfl, Nat.le_of_ble_eq_true rfl⟩ (fun H locs hC hS => ?_)
    refine ci_aast (t := 2) (cj := 5) (r := (RX5, TX5, 4)) hx hb hK hC hS rfl rfl kq16 (by decide) hrq1 (by decide) dX7_init_38 (fun ρ18 f19 H locs hC hrq1 ho9 h91 h92 hS => ?_)
    have hfq1 : ∀ j, j < 3 + 1 → toK κ17 6 (f19 j) := fill_step hfq1 kq16 h91 h92
    refine lv_iinc (v := (4 : Int32)) (lv' := [(1, .int (4 : Int32)), (0, .ref h0)]) hx hb dX7_init_39 hl (k := 0) rfl (by decide) (by decide) rfl (fun ls hl => ?_)
    refine lv_goto (tgt := 20) hx hb dX7_init_42 (by decide) ?_
    refine lv_iload_n hx hb dX7_init_20 rfl (lv_at hl 0 rfl) ?_
    refine lv_bipush (v := (12 : Int32)) hx hb dX7_init_21 (by decide) ?_
    refine tb_icmp_ge (tgt := 45) hx hb dX7_init_23 (by decide) (fun cq => absurd cq (by decide)) (fun _ => ?_)
    refine lv_aload_n hx hb dX7_init_26 rfl (lv_at hl 1 rfl) ?_
    refine ci_get (ci := 7) (C := RX7) (T := TX7) (N := 2) (v := .ref q1) hx hb hts hin7 hown hK hC rfl rfl 0 (by decide) rfl hfl11 rfl dX7_init_27 ?_
    refine lv_iload_n hx hb dX7_init_30 rfl (lv_at hl 0 rfl) ?_
    refine ci_newS (cj := 5) (C := RX5) (T := TX5) (N := 4) hx hb hts hin5 tyX5 tyX5_ok hown hcl9 his5 hiniX5_init hK hC hS rfl rfl (by decide) (by unfold sing; decide) (fun κ' q k hk => ?_) (Nat.le_of_ble_eq_true rfl) (Nat.le_of_ble_eq_true rfl) dX7_init_31 (fun q20 κ21 H hC he kq20 hS => ?_)
    · rcases (show k = 0 ∨ k = 1 ∨ k = 2 ∨ k = 3 by omega) with rfl | rfl | rfl | rfl <;> exact ⟨_, rfl, by first | trivial | decide⟩
    refine W.widen (k := 6) (n := 32) (by omega) (by omega) ?_
    have hfq1 := fill_mono he (by decide) hfq1
    refine lv_dup hx hb dX7_init_34 rfl ?_
    refine ci_callS ⟨hx, hb, hml, hown, hts⟩ (c_X5_init l D cy κ21 Z0 q20 kq20) ⟨va_cnB 0 hts gX7_init_X5_init_n21 rfl rfl rfl hN.1.2.2.2.1 hiniX5_init (by decide +kernel) ⟨Nat.le_of_ble_eq_true rfl, Nat.le_of_ble_eq_true rfl⟩, rfl, himX5_init⟩ hK hC hS hl.1 (Nat.le_of_ble_eq_true rfl) dX7_init_35 ⟨Nat.le_of_ble_eq_true rfl, Nat.le_of_ble_eq_true rfl⟩ (fun H locs hC hS => ?_)
    refine ci_aast (t := 2) (cj := 5) (r := (RX5, TX5, 4)) hx hb hK hC hS rfl rfl kq20 (by decide) hrq1 (by decide) dX7_init_38 (fun ρ22 f23 H locs hC hrq1 ho9 h91 h92 hS => ?_)
    have hfq1 : ∀ j, j < 4 + 1 → toK κ21 6 (f23 j) := fill_step hfq1 kq20 h91 h92
    refine lv_iinc (v := (5 : Int32)) (lv' := [(1, .int (5 : Int32)), (0, .ref h0)]) hx hb dX7_init_39 hl (k := 0) rfl (by decide) (by decide) rfl (fun ls hl => ?_)
    refine lv_goto (tgt := 20) hx hb dX7_init_42 (by decide) ?_
    refine lv_iload_n hx hb dX7_init_20 rfl (lv_at hl 0 rfl) ?_
    refine lv_bipush (v := (12 : Int32)) hx hb dX7_init_21 (by decide) ?_
    refine tb_icmp_ge (tgt := 45) hx hb dX7_init_23 (by decide) (fun cq => absurd cq (by decide)) (fun _ => ?_)
    refine lv_aload_n hx hb dX7_init_26 rfl (lv_at hl 1 rfl) ?_
    refine ci_get (ci := 7) (C := RX7) (T := TX7) (N := 2) (v := .ref q1) hx hb hts hin7 hown hK hC rfl rfl 0 (by decide) rfl hfl11 rfl dX7_init_27 ?_
    refine lv_iload_n hx hb dX7_init_30 rfl (lv_at hl 0 rfl) ?_
    refine ci_newS (cj := 5) (C := RX5) (T := TX5) (N := 4) hx hb hts hin5 tyX5 tyX5_ok hown hcl9 his5 hiniX5_init hK hC hS rfl rfl (by decide) (by unfold sing; decide) (fun κ' q k hk => ?_) (Nat.le_of_ble_eq_true rfl) (Nat.le_of_ble_eq_true rfl) dX7_init_31 (fun q24 κ25 H hC he kq24 hS => ?_)
    · rcases (show k = 0 ∨ k = 1 ∨ k = 2 ∨ k = 3 by omega) with rfl | rfl | rfl | rfl <;> exact ⟨_, rfl, by first | trivial | decide⟩
    refine W.widen (k := 7) (n := 36) (by omega) (by omega) ?_
    have hfq1 := fill_mono he (by decide) hfq1
    refine lv_dup hx hb dX7_init_34 rfl ?_
    refine ci_callS ⟨hx, hb, hml, hown, hts⟩ (c_X5_init l D cy κ25 Z0 q24 kq24) ⟨va_cnB 0 hts gX7_init_X5_init_n21 rfl rfl rfl hN.1.2.2.2.1 hiniX5_init (by decide +kernel) ⟨Nat.le_of_ble_eq_true rfl, Nat.le_of_ble_eq_true rfl⟩, rfl, himX5_init⟩ hK hC hS hl.1 (Nat.le_of_ble_eq_true rfl) dX7_init_35 ⟨Nat.le_of_ble_eq_true rfl, Nat.le_of_ble_eq_true rfl⟩ (fun H locs hC hS => ?_)
    refine ci_aast (t := 2) (cj := 5) (r := (RX5, TX5, 4)) hx hb hK hC hS rfl rfl kq24 (by decide) hrq1 (by decide) dX7_init_38 (fun ρ26 f27 H locs hC hrq1 ho9 h91 h92 hS => ?_)
    have hfq1 : ∀ j, j < 5 + 1 → toK κ25 6 (f27 j) := fill_step hfq1 kq24 h91 h92
    refine lv_iinc (v := (6 : Int32)) (lv' := [(1, .int (6 : Int32)), (0, .ref h0)]) hx hb dX7_init_39 hl (k := 0) rfl (by decide) (by decide) rfl (fun ls hl => ?_)
    refine lv_goto (tgt := 20) hx hb dX7_init_42 (by decide) ?_
    refine lv_iload_n hx hb dX7_init_20 rfl (lv_at hl 0 rfl) ?_
    refine lv_bipush (v := (12 : Int32)) hx hb dX7_init_21 (by decide) ?_
    refine tb_icmp_ge (tgt := 45) hx hb dX7_init_23 (by decide) (fun cq => absurd cq (by decide)) (fun _ => ?_)
    refine lv_aload_n hx hb dX7_init_26 rfl (lv_at hl 1 rfl) ?_
    refine ci_get (ci := 7) (C := RX7) (T := TX7) (N := 2) (v := .ref q1) hx hb hts hin7 hown hK hC rfl rfl 0 (by decide) rfl hfl11 rfl dX7_init_27 ?_
    refine lv_iload_n hx hb dX7_init_30 rfl (lv_at hl 0 rfl) ?_
    refine ci_newS (cj := 5) (C := RX5) (T := TX5) (N := 4) hx hb hts hin5 tyX5 tyX5_ok hown hcl9 his5 hiniX5_init hK hC hS rfl rfl (by decide) (by unfold sing; decide) (fun κ' q k hk => ?_) (Nat.le_of_ble_eq_true rfl) (Nat.le_of_ble_eq_true rfl) dX7_init_31 (fun q28 κ29 H hC he kq28 hS => ?_)
    · rcases (show k = 0 ∨ k = 1 ∨ k = 2 ∨ k = 3 by omega) with rfl | rfl | rfl | rfl <;> exact ⟨_, rfl, by first | trivial | decide⟩
    refine W.widen (k := 8) (n := 40) (by omega) (by omega) ?_
    have hfq1 := fill_mono he (by decide) hfq1
    refine lv_dup hx hb dX7_init_34 rfl ?_
    refine ci_callS ⟨hx, hb, hml, hown, hts⟩ (c_X5_init l D cy κ29 Z0 q28 kq28) ⟨va_cnB 0 hts gX7_init_X5_init_n21 rfl rfl rfl hN.1.2.2.2.1 hiniX5_init (by decide +kernel) ⟨Nat.le_of_ble_eq_true rfl, Nat.le_of_ble_eq_true rfl⟩, rfl, himX5_init⟩ hK hC hS hl.1 (Nat.le_of_ble_eq_true rfl) dX7_init_35 ⟨Nat.le_of_ble_eq_true rfl, Nat.le_of_ble_eq_true rfl⟩ (fun H locs hC hS => ?_)
    refine ci_aast (t := 2) (cj := 5) (r := (RX5, TX5, 4)) hx hb hK hC hS rfl rfl kq28 (by decide) hrq1 (by decide) dX7_init_38 (fun ρ30 f31 H locs hC hrq1 ho9 h91 h92 hS => ?_)
    have hfq1 : ∀ j, j < 6 + 1 → toK κ29 6 (f31 j) := fill_step hfq1 kq28 h91 h92
    refine lv_iinc (v := (7 : Int32)) (lv' := [(1, .int (7 : Int32)), (0, .ref h0)]) hx hb dX7_init_39 hl (k := 0) rfl (by decide) (by decide) rfl (fun ls hl => ?_)
    refine lv_goto (tgt := 20) hx hb dX7_init_42 (by decide) ?_
    refine lv_iload_n hx hb dX7_init_20 rfl (lv_at hl 0 rfl) ?_
    refine lv_bipush (v := (12 : Int32)) hx hb dX7_init_21 (by decide) ?_
    refine tb_icmp_ge (tgt := 45) hx hb dX7_init_23 (by decide) (fun cq => absurd cq (by decide)) (fun _ => ?_)
    refine lv_aload_n hx hb dX7_init_26 rfl (lv_at hl 1 rfl) ?_
    refine ci_get (ci := 7) (C := RX7) (T := TX7) (N := 2) (v := .ref q1) hx hb hts hin7 hown hK hC rfl rfl 0 (by decide) rfl hfl11 rfl dX7_init_27 ?_
    refine lv_iload_n hx hb dX7_init_30 rfl (lv_at hl 0 rfl) ?_
    refine ci_newS (cj := 5) (C := RX5) (T := TX5) (N := 4) hx hb hts hin5 tyX5 tyX5_ok hown hcl9 his5 hiniX5_init hK hC hS rfl rfl (by decide) (by unfold sing; decide) (fun κ' q k hk => ?_) (Nat.le_of_ble_eq_true rfl) (Nat.le_of_ble_eq_true rfl) dX7_init_31 (fun q32 κ33 H hC he kq32 hS => ?_)
    · rcases (show k = 0 ∨ k = 1 ∨ k = 2 ∨ k = 3 by omega) with rfl | rfl | rfl | rfl <;> exact ⟨_, rfl, by first | trivial | decide⟩
    refine W.widen (k := 9) (n := 44) (by omega) (by omega) ?_
    have hfq1 := fill_mono he (by decide) hfq1
    refine lv_dup hx hb dX7_init_34 rfl ?_
    refine ci_callS ⟨hx, hb, hml, hown, hts⟩ (c_X5_init l D cy κ33 Z0 q32 kq32) ⟨va_cnB 0 hts gX7_init_X5_init_n21 rfl rfl rfl hN.1.2.2.2.1 hiniX5_init (by decide +kernel) ⟨Nat.le_of_ble_eq_true rfl, Nat.le_of_ble_eq_true rfl⟩, rfl, himX5_init⟩ hK hC hS hl.1 (Nat.le_of_ble_eq_true rfl) dX7_init_35 ⟨Nat.le_of_ble_eq_true rfl, Nat.le_of_ble_eq_true rfl⟩ (fun H locs hC hS => ?_)
    refine ci_aast (t := 2) (cj := 5) (r := (RX5, TX5, 4)) hx hb hK hC hS rfl rfl kq32 (by decide) hrq1 (by decide) dX7_init_38 (fun ρ34 f35 H locs hC hrq1 ho9 h91 h92 hS => ?_)
    have hfq1 : ∀ j, j < 7 + 1 → toK κ33 6 (f35 j) := fill_step hfq1 kq32 h91 h92
    refine lv_iinc (v := (8 : Int32)) (lv' := [(1, .int (8 : Int32)), (0, .ref h0)]) hx hb dX7_init_39 hl (k := 0) rfl (by decide) (by decide) rfl (fun ls hl => ?_)
    refine lv_goto (tgt := 20) hx hb dX7_init_42 (by decide) ?_
    refine lv_iload_n hx hb dX7_init_20 rfl (lv_at hl 0 rfl) ?_
    refine lv_bipush (v := (12 : Int32)) hx hb dX7_init_21 (by decide) ?_
    refine tb_icmp_ge (tgt := 45) hx hb dX7_init_23 (by decide) (fun cq => absurd cq (by decide)) (fun _ => ?_)
    refine lv_aload_n hx hb dX7_init_26 rfl (lv_at hl 1 rfl) ?_
    refine ci_get (ci := 7) (C := RX7) (T := TX7) (N := 2) (v := .ref q1) hx hb hts hin7 hown hK hC rfl rfl 0 (by decide) rfl hfl11 rfl dX7_init_27 ?_
    refine lv_iload_n hx hb dX7_init_30 rfl (lv_at hl 0 rfl) ?_
    refine ci_newS (cj := 5) (C := RX5) (T := TX5) (N := 4) hx hb hts hin5 tyX5 tyX5_ok hown hcl9 his5 hiniX5_init hK hC hS rfl rfl (by decide) (by unfold sing; decide) (fun κ' q k hk => ?_) (Nat.le_of_ble_eq_true rfl) (Nat.le_of_ble_eq_true rfl) dX7_init_31 (fun q36 κ37 H hC he kq36 hS => ?_)
    · rcases (show k = 0 ∨ k = 1 ∨ k = 2 ∨ k = 3 by omega) with rfl | rfl | rfl | rfl <;> exact ⟨_, rfl, by first | trivial | decide⟩
    refine W.widen (k := 10) (n := 48) (by omega) (by omega) ?_
    have hfq1 := fill_mono he (by decide) hfq1
    refine lv_dup hx hb dX7_init_34 rfl ?_
    refine ci_callS ⟨hx, hb, hml, hown, hts⟩ (c_X5_init l D cy κ37 Z0 q36 kq36) ⟨va_cnB 0 hts gX7_init_X5_init_n21 rfl rfl rfl hN.1.2.2.2.1 hiniX5_init (by decide +kernel) ⟨Nat.le_of_ble_eq_true rfl, Nat.le_of_ble_eq_true rfl⟩, rfl, himX5_init⟩ hK hC hS hl.1 (Nat.le_of_ble_eq_true rfl) dX7_init_35 ⟨Nat.le_of_ble_eq_true rfl, Nat.le_of_ble_eq_true rfl⟩ (fun H locs hC hS => ?_)
    refine ci_aast (t := 2) (cj := 5) (r := (RX5, TX5, 4)) hx hb hK hC hS rfl rfl kq36 (by decide) hrq1 (by decide) dX7_init_38 (fun ρ38 f39 H locs hC hrq1 ho9 h91 h92 hS => ?_)
    have hfq1 : ∀ j, j < 8 + 1 → toK κ37 6 (f39 j) := fill_step hfq1 kq36 h91 h92
    refine lv_iinc (v := (9 : Int32)) (lv' := [(1, .int (9 : Int32)), (0, .ref h0)]) hx hb dX7_init_39 hl (k := 0) rfl (by decide) (by decide) rfl (fun ls hl => ?_)
    refine lv_goto (tgt := 20) hx hb dX7_init_42 (by decide) ?_
    refine lv_iload_n hx hb dX7_init_20 rfl (lv_at hl 0 rfl) ?_
    refine lv_bipush (v := (12 : Int32)) hx hb dX7_init_21 (by decide) ?_
    refine tb_icmp_ge (tgt := 45) hx hb dX7_init_23 (by decide) (fun cq => absurd cq (by decide)) (fun _ => ?_)
    refine lv_aload_n hx hb dX7_init_26 rfl (lv_at hl 1 rfl) ?_
    refine ci_get (ci := 7) (C := RX7) (T := TX7) (N := 2) (v := .ref q1) hx hb hts hin7 hown hK hC rfl rfl 0 (by decide) rfl hfl11 rfl dX7_init_27 ?_
    refine lv_iload_n hx hb dX7_init_30 rfl (lv_at hl 0 rfl) ?_
    refine ci_newS (cj := 5) (C := RX5) (T := TX5) (N := 4) hx hb hts hin5 tyX5 tyX5_ok hown hcl9 his5 hiniX5_init hK hC hS rfl rfl (by decide) (by unfold sing; decide) (fun κ' q k hk => ?_) (Nat.le_of_ble_eq_true rfl) (Nat.le_of_ble_eq_true rfl) dX7_init_31 (fun q40 κ41 H hC he kq40 hS => ?_)
    · rcases (show k = 0 ∨ k = 1 ∨ k = 2 ∨ k = 3 by omega) with rfl | rfl | rfl | rfl <;> exact ⟨_, rfl, by first | trivial | decide⟩
    refine W.widen (k := 11) (n := 52) (by omega) (by omega) ?_
    have hfq1 := fill_mono he (by decide) hfq1
    refine lv_dup hx hb dX7_init_34 rfl ?_
    refine ci_callS ⟨hx, hb, hml, hown, hts⟩ (c_X5_init l D cy κ41 Z0 q40 kq40) ⟨va_cnB 0 hts gX7_init_X5_init_n21 rfl rfl rfl hN.1.2.2.2.1 hiniX5_init (by decide +kernel) ⟨Nat.le_of_ble_eq_true rfl, Nat.le_of_ble_eq_true rfl⟩, rfl, himX5_init⟩ hK hC hS hl.1 (Nat.le_of_ble_eq_true rfl) dX7_init_35 ⟨Nat.le_of_ble_eq_true rfl, Nat.le_of_ble_eq_true rfl⟩ (fun H locs hC hS => ?_)
    refine ci_aast (t := 2) (cj := 5) (r := (RX5, TX5, 4)) hx hb hK hC hS rfl rfl kq40 (by decide) hrq1 (by decide) dX7_init_38 (fun ρ42 f43 H locs hC hrq1 ho9 h91 h92 hS => ?_)
    have hfq1 : ∀ j, j < 9 + 1 → toK κ41 6 (f43 j) := fill_step hfq1 kq40 h91 h92
    refine lv_iinc (v := (10 : Int32)) (lv' := [(1, .int (10 : Int32)), (0, .ref h0)]) hx hb dX7_init_39 hl (k := 0) rfl (by decide) (by decide) rfl (fun ls hl => ?_)
    refine lv_goto (tgt := 20) hx hb dX7_init_42 (by decide) ?_
    refine lv_iload_n hx hb dX7_init_20 rfl (lv_at hl 0 rfl) ?_
    refine lv_bipush (v := (12 : Int32)) hx hb dX7_init_21 (by decide) ?_
    refine tb_icmp_ge (tgt := 45) hx hb dX7_init_23 (by decide) (fun cq => absurd cq (by decide)) (fun _ => ?_)
    refine lv_aload_n hx hb dX7_init_26 rfl (lv_at hl 1 rfl) ?_
    refine ci_get (ci := 7) (C := RX7) (T := TX7) (N := 2) (v := .ref q1) hx hb hts hin7 hown hK hC rfl rfl 0 (by decide) rfl hfl11 rfl dX7_init_27 ?_
    refine lv_iload_n hx hb dX7_init_30 rfl (lv_at hl 0 rfl) ?_
    refine ci_newS (cj := 5) (C := RX5) (T := TX5) (N := 4) hx hb hts hin5 tyX5 tyX5_ok hown hcl9 his5 hiniX5_init hK hC hS rfl rfl (by decide) (by unfold sing; decide) (fun κ' q k hk => ?_) (Nat.le_of_ble_eq_true rfl) (Nat.le_of_ble_eq_true rfl) dX7_init_31 (fun q44 κ45 H hC he kq44 hS => ?_)
    · rcases (show k = 0 ∨ k = 1 ∨ k = 2 ∨ k = 3 by omega) with rfl | rfl | rfl | rfl <;> exact ⟨_, rfl, by first | trivial | decide⟩
    refine W.widen (k := 12) (n := 56) (by omega) (by omega) ?_
    have hfq1 := fill_mono he (by decide) hfq1
    refine lv_dup hx hb dX7_init_34 rfl ?_
    refine ci_callS ⟨hx, hb, hml, hown, hts⟩ (c_X5_init l D cy κ45 Z0 q44 kq44) ⟨va_cnB 0 hts gX7_init_X5_init_n21 rfl rfl rfl hN.1.2.2.2.1 hiniX5_init (by decide +kernel) ⟨Nat.le_of_ble_eq_true rfl, Nat.le_of_ble_eq_true rfl⟩, rfl, himX5_init⟩ hK hC hS hl.1 (Nat.le_of_ble_eq_true rfl) dX7_init_35 ⟨Nat.le_of_ble_eq_true rfl, Nat.le_of_ble_eq_true rfl⟩ (fun H locs hC hS => ?_)
    refine ci_aast (t := 2) (cj := 5) (r := (RX5, TX5, 4)) hx hb hK hC hS rfl rfl kq44 (by decide) hrq1 (by decide) dX7_init_38 (fun ρ46 f47 H locs hC hrq1 ho9 h91 h92 hS => ?_)
    have hfq1 : ∀ j, j < 10 + 1 → toK κ45 6 (f47 j) := fill_step hfq1 kq44 h91 h92
    refine lv_iinc (v := (11 : Int32)) (lv' := [(1, .int (11 : Int32)), (0, .ref h0)]) hx hb dX7_init_39 hl (k := 0) rfl (by decide) (by decide) rfl (fun ls hl => ?_)
    refine lv_goto (tgt := 20) hx hb dX7_init_42 (by decide) ?_
    refine lv_iload_n hx hb dX7_init_20 rfl (lv_at hl 0 rfl) ?_
    refine lv_bipush (v := (12 : Int32)) hx hb dX7_init_21 (by decide) ?_
    refine tb_icmp_ge (tgt := 45) hx hb dX7_init_23 (by decide) (fun cq => absurd cq (by decide)) (fun _ => ?_)
    refine lv_aload_n hx hb dX7_init_26 rfl (lv_at hl 1 rfl) ?_
    refine ci_get (ci := 7) (C := RX7) (T := TX7) (N := 2) (v := .ref q1) hx hb hts hin7 hown hK hC rfl rfl 0 (by decide) rfl hfl11 rfl dX7_init_27 ?_
    refine lv_iload_n hx hb dX7_init_30 rfl (lv_at hl 0 rfl) ?_
    refine ci_newS (cj := 5) (C := RX5) (T := TX5) (N := 4) hx hb hts hin5 tyX5 tyX5_ok hown hcl9 his5 hiniX5_init hK hC hS rfl rfl (by decide) (by unfold sing; decide) (fun κ' q k hk => ?_) (Nat.le_of_ble_eq_true rfl) (Nat.le_of_ble_eq_true rfl) dX7_init_31 (fun q48 κ49 H hC he kq48 hS => ?_)
    · rcases (show k = 0 ∨ k = 1 ∨ k = 2 ∨ k = 3 by omega) with rfl | rfl | rfl | rfl <;> exact ⟨_, rfl, by first | trivial | decide⟩
    refine W.widen (k := 13) (n := 60) (by omega) (by omega) ?_
    have hfq1 := fill_mono he (by decide) hfq1
    refine lv_dup hx hb dX7_init_34 rfl ?_
    refine ci_callS ⟨hx, hb, hml, hown, hts⟩ (c_X5_init l D cy κ49 Z0 q48 kq48) ⟨va_cnB 0 hts gX7_init_X5_init_n21 rfl rfl rfl hN.1.2.2.2.1 hiniX5_init (by decide +kernel) ⟨Nat.le_of_ble_eq_true rfl, Nat.le_of_ble_eq_true rfl⟩, rfl, himX5_init⟩ hK hC hS hl.1 (Nat.le_of_ble_eq_true rfl) dX7_init_35 ⟨Nat.le_of_ble_eq_true rfl, Nat.le_of_ble_eq_true rfl⟩ (fun H locs hC hS => ?_)
    refine ci_aast (t := 2) (cj := 5) (r := (RX5, TX5, 4)) hx hb hK hC hS rfl rfl kq48 (by decide) hrq1 (by decide) dX7_init_38 (fun ρ50 f51 H locs hC hrq1 ho9 h91 h92 hS => ?_)
    have hfq1 : ∀ j, j < 11 + 1 → toK κ49 6 (f51 j) := fill_step hfq1 kq48 h91 h92
    refine lv_iinc (v := (12 : Int32)) (lv' := [(1, .int (12 : Int32)), (0, .ref h0)]) hx hb dX7_init_39 hl (k := 0) rfl (by decide) (by decide) rfl (fun ls hl => ?_)
    refine lv_goto (tgt := 20) hx hb dX7_init_42 (by decide) ?_
    refine lv_iload_n hx hb dX7_init_20 rfl (lv_at hl 0 rfl) ?_
    refine lv_bipush (v := (12 : Int32)) hx hb dX7_init_21 (by decide) ?_
    refine tb_icmp_ge (tgt := 45) hx hb dX7_init_23 (by decide) (fun _ => ?_) (fun cq => absurd cq (by decide))
    obtain ⟨κ52, eκ52⟩ : ∃ k : Nat → Nat, k = va_up κ49 q1 29 := ⟨_, rfl⟩
    have ka0 : κ49 q1 = 0 := (hC.2.2.2.2.2.2.2.2 q1 _ hrq1).2.1
    have he : ext κ49 κ52 := by rw [eκ52]; exact ext.up ka0
    have hC := hC.sealA (K := 29) hrq1 (by decide) (by unfold sing; decide) (fun j hj => fill_mono (ext.up ka0) (by decide) hfq1 j hj)
    rw [← eκ52] at hC
    have kq1 : κ52 q1 = 29 := by rw [eκ52]; exact if_pos rfl
    obtain ⟨ρ53, eρ53⟩ : ∃ r : Nat → Option Cell, r = (fun b => if b = q1 then none else ρ50 b) := ⟨_, rfl⟩
    rw [← eρ53] at hC
    have h0n := hC.2.2.1
    have hV : ∀ k, k < 2 → fsp (va_up κ52 h0 (7 + 1)) Z0 (7 + 1) k h0 ((updV (updV (fun k => defaultValue (tyX7 k)) 0 (.ref q1)) 1 (.int (0 : Int32))) k) := by
      intro k hk
      rcases (show k = 0 ∨ k = 1 by omega) with rfl | rfl
      · exact ⟨q1, rfl, (ext.up h0n q1 (by rw [kq1]; decide)).trans kq1⟩
      · exact ⟨_, rfl, rfl, by decide⟩
    obtain ⟨s1, s2, s3, s4, s5⟩ := hC.seal (by decide) hV (by unfold sing; omega)
    exact hret H locs ls 45 _ dX7_init_45 ⟨s2, s3, s4, s5⟩ s1 hS
  exact main s.heap [] hC va_S.rf
