abbrev rmX1_init : Room := { frames := 1, cells := 5, slots := 16, locals := 32 }
set_option maxHeartbeats 4000000 in
set_option maxRecDepth 100000 in
theorem c_X1_init (l : Launch) (D : va_G) (cy : Nat → ClassId) (κ0 : Nat → Nat) (sz h0 : Nat) (hk0 : κ0 h0 = 0) (hlt : h0 < sz) (hsg2 : ∀ b, κ0 b ≠ 2)  : Met l yX1_init wsX1_init rmX1_init (va_Pc [.ref h0] (CP D cy κ0 sz h0 1 (fun k => defaultValue (tyX1 k)))) (va_Qv (fun κ' => COk κ0 sz h0 (1 + 1) κ') (fun κ' t => CQ D cy κ' t) (AC κ0 h0 sz)) 5 16 (AC κ0 h0 sz) := by
  refine Met.twc (cc := cX1_init) (maxL := 1) (by decide) rfl rfl (Nat.le_of_ble_eq_true rfl) hk0 hlt ?_
  intro p e s m args below meth c Q hx hb hml hown hts hname hK hN hC hret ls hl
  have hl : lv_has ls 1 [(0, .ref h0)] := hl
  have hoi1 := hts (.methodLink RX1 3 objectInit) (by decide +kernel)
  have hoi2 := hts (.instanceMethod objectInit) (by decide +kernel)
  have hoi3 := hts (.code objectInit ⟨#[0xb1]⟩ 1 none) (by decide +kernel)
  have hcl9 := hts (.classLink RX1 9 "[[I") (by decide +kernel)
  have hacint := hts (.arrayClass .int) (by decide +kernel)
  have hin1 : ∀ w ∈ u_ws RX1 TX1 2, w ∈ wsX1_init := by decide +kernel
  have hfl11 := hts (.fieldLink RX1 11 "PlyPlates$Cases" "pulls" "[[I") (by decide +kernel)
  have hfl16 := hts (.fieldLink RX1 16 "PlyPlates$Cases" "size" "I") (by decide +kernel)
  have main : ∀ (H : Heap) (locs : List Loc), CI D cy κ0 sz h0 1 κ0 (fun _ => none) (fun k => defaultValue (tyX1 k)) H → va_S (AC κ0 h0 sz) s.heap H locs → W p l e rmX1_init s m args below meth c H locs 0 0 Q (F0 m 0 ls []) := by
    intro H locs hC hS
    refine lv_aload_n hx hb dX1_init_0 rfl (lv_at hl 0 rfl) ?_
    refine W.objInit hx hb hown hoi1 hoi2 hoi3 rfl (by rw [hml]; exact hl.1) rfl dX1_init_1 (Nat.le_of_ble_eq_true rfl) (Nat.le_of_ble_eq_true rfl) ?_
    refine W.eq (g2 := F0 m 4 ls []) rfl ?_
    refine lv_aload_n hx hb dX1_init_4 rfl (lv_at hl 0 rfl) ?_
    refine lv_iconst (v := (4 : Int32)) hx hb dX1_init_5 (by decide) ?_
    refine lv_iconst (v := (3 : Int32)) hx hb dX1_init_6 (by decide) ?_
    refine ci_mna hx hb hown hcl9 hN.2.2.2.2 hacint hK hsg2 hC hS (Nat.le_of_ble_eq_true rfl) (Nat.le_of_ble_eq_true rfl) dX1_init_7 (fun q1 κ2 H hC he hn2 kq1 hS => ?_)
    refine W.widen (k := 5) (n := 16) (by omega) (by omega) ?_
    have nn2 : ∀ b, κ2 b ≠ 2 := hn2
    refine ci_put (ci := 1) (C := RX1) (T := TX1) (N := 2) hx hb hts hin1 tyX1 tyX1_ok nmX1 hown hK hC hS rfl rfl 0 (by decide) rfl hfl11 (Or.inr ⟨rfl, hname, rfl⟩) (v := .ref q1) rfl rfl dX1_init_11 (fun H locs hC hS => ?_)
    refine lv_aload_n hx hb dX1_init_14 rfl (lv_at hl 0 rfl) ?_
    refine lv_iconst (v := (0 : Int32)) hx hb dX1_init_15 (by decide) ?_
    refine ci_put (ci := 1) (C := RX1) (T := TX1) (N := 2) hx hb hts hin1 tyX1 tyX1_ok nmX1 hown hK hC hS rfl rfl 1 (by decide) rfl hfl16 (Or.inl rfl) (v := .int (0 : Int32)) rfl rfl dX1_init_16 (fun H locs hC hS => ?_)
    have h0n := hC.2.2.1
    have hV : ∀ k, k < 2 → fsp (va_up κ2 h0 (1 + 1)) Z0 (1 + 1) k h0 ((updV (updV (fun k => defaultValue (tyX1 k)) 0 (.ref q1)) 1 (.int (0 : Int32))) k) := by
      intro k hk
      rcases (show k = 0 ∨ k = 1 by omega) with rfl | rfl
      · exact ⟨q1, rfl, (ext.up h0n q1 (by rw [kq1]; decide)).trans kq1⟩
      · exact ⟨_, rfl, rfl, by decide⟩
    have nn2 : ∀ b, κ2 b ≠ 2 := nn2
    obtain ⟨s1, s2, s3, s4, s5⟩ := hC.seal (by decide) hV (fun _ b hb => by
      have hsx : sing (κ2 b) := by rw [hb]; unfold sing; omega
      have hne2 : ∀ b, κ2 b ≠ 2 := nn2
      exact hne2 b hb)
    exact hret H locs ls 19 _ dX1_init_19 ⟨s2, s3, s4, s5⟩ s1 hS
  exact main s.heap [] hC va_S.rf
