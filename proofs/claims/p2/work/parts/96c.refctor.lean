abbrev rmX11_init : Room := { frames := 1, cells := 18, slots := 380, locals := 32 }
set_option maxHeartbeats 4000000 in
set_option maxRecDepth 100000 in
theorem c_X11_init (l : Launch) (D : va_G) (cy : Nat → ClassId) (κ0 : Nat → Nat) (sz h0 : Nat) (hk0 : κ0 h0 = 0) (hlt : h0 < sz) (hm : noM κ0)  : Met l yX11_init wsX11_init rmX11_init (va_Pc [.ref h0] (CP D cy κ0 sz h0 11 (fun k => defaultValue (tyX11 k)))) (va_Qv (fun κ' => COm κ0 sz h0 κ') (fun κ' t => CQ D cy κ' t) (AC κ0 h0 sz)) 18 380 (AC κ0 h0 sz) := by
  refine Met.twm (cc := cX11_init) (maxL := 1) (by decide) rfl rfl (Nat.le_of_ble_eq_true rfl) hk0 hlt ?_
  intro p e s m args below meth c Q hx hb hml hown hts hname hK hN hC hret ls hl
  have hl : lv_has ls 1 [(0, .ref h0)] := hl
  have hoi1 := hts (.methodLink RX11 3 objectInit) (by decide +kernel)
  have hoi2 := hts (.instanceMethod objectInit) (by decide +kernel)
  have hoi3 := hts (.code objectInit ⟨#[0xb1]⟩ 1 none) (by decide +kernel)
  have hin11 : ∀ w ∈ u_ws RX11 TX11 31, w ∈ wsX11_init := by decide +kernel
  have hfl9 := hts (.fieldLink RX11 9 "PlyPlatesModel" "run" "I") (by decide +kernel)
  have hacint := hts (.arrayClass .int) (by decide +kernel)
  have hfl13 := hts (.fieldLink RX11 13 "PlyPlatesModel" "q11" "[I") (by decide +kernel)
  have hfl17 := hts (.fieldLink RX11 17 "PlyPlatesModel" "q22" "[I") (by decide +kernel)
  have hfl20 := hts (.fieldLink RX11 20 "PlyPlatesModel" "q12" "[I") (by decide +kernel)
  have hfl23 := hts (.fieldLink RX11 23 "PlyPlatesModel" "q66" "[I") (by decide +kernel)
  have hfl26 := hts (.fieldLink RX11 26 "PlyPlatesModel" "strengths" "[I") (by decide +kernel)
  have hfl29 := hts (.fieldLink RX11 29 "PlyPlatesModel" "along" "[I") (by decide +kernel)
  have hfl32 := hts (.fieldLink RX11 32 "PlyPlatesModel" "across" "[I") (by decide +kernel)
  have hfl35 := hts (.fieldLink RX11 35 "PlyPlatesModel" "many" "[I") (by decide +kernel)
  have hfl38 := hts (.fieldLink RX11 38 "PlyPlatesModel" "stuff" "[I") (by decide +kernel)
  have hfl41 := hts (.fieldLink RX11 41 "PlyPlatesModel" "way" "[I") (by decide +kernel)
  have hfl44 := hts (.fieldLink RX11 44 "PlyPlatesModel" "thick" "[I") (by decide +kernel)
  have hfl47 := hts (.fieldLink RX11 47 "PlyPlatesModel" "broken" "[I") (by decide +kernel)
  have hfl50 := hts (.fieldLink RX11 50 "PlyPlatesModel" "caseX" "[I") (by decide +kernel)
  have hfl53 := hts (.fieldLink RX11 53 "PlyPlatesModel" "caseY" "[I") (by decide +kernel)
  have hfl56 := hts (.fieldLink RX11 56 "PlyPlatesModel" "caseS" "[I") (by decide +kernel)
  have hfl59 := hts (.fieldLink RX11 59 "PlyPlatesModel" "stepWhat" "[I") (by decide +kernel)
  have haclong := hts (.arrayClass .long) (by decide +kernel)
  have hfl62 := hts (.fieldLink RX11 62 "PlyPlatesModel" "stepAbove" "[J") (by decide +kernel)
  have hfl66 := hts (.fieldLink RX11 66 "PlyPlatesModel" "stepBelow" "[J") (by decide +kernel)
  have main : ∀ (H : Heap) (locs : List Loc), CI D cy κ0 sz h0 11 κ0 (fun _ => none) (fun k => defaultValue (tyX11 k)) H → va_S (AC κ0 h0 sz) s.heap H locs → W p l e rmX11_init s m args below meth c H locs 0 0 Q (F0 m 0 ls []) := by
    intro H locs hC hS
    refine lv_aload_n hx hb dX11_init_0 rfl (lv_at hl 0 rfl) ?_
    refine W.objInit hx hb hown hoi1 hoi2 hoi3 rfl (by rw [hml]; exact hl.1) rfl dX11_init_1 (Nat.le_of_ble_eq_true rfl) (Nat.le_of_ble_eq_true rfl) ?_
    refine W.eq (g2 := F0 m 4 ls []) rfl ?_
    refine lv_aload_n hx hb dX11_init_4 rfl (lv_at hl 0 rfl) ?_
    refine lv_bipush (v := (12 : Int32)) hx hb dX11_init_5 (by decide) ?_
    refine ci_put (ci := 11) (C := RX11) (T := TX11) (N := 31) hx hb hts hin11 tyX11 tyX11_ok nmX11 hown hK hC hS rfl rfl 3 (by decide) rfl hfl9 (Or.inl rfl) (v := .int (12 : Int32)) rfl rfl dX11_init_7 (fun H locs hC hS => ?_)
    refine lv_aload_n hx hb dX11_init_10 rfl (lv_at hl 0 rfl) ?_
    refine lv_iconst (v := (3 : Int32)) hx hb dX11_init_11 (by decide) ?_
    refine ci_newI (K := 1003) (N := 3) hx hb hacint hK hC hS (by decide) rfl rfl (by unfold sing; decide) (fun _ j _ => ⟨_, rfl, trivial⟩) (by decide) (by decide) (by decide) (Nat.le_of_ble_eq_true rfl) (Nat.le_of_ble_eq_true rfl) dX11_init_12 (fun q1 κ2 H hC he kq1 hS => ?_)
    refine W.widen (k := 1) (n := 3) (by omega) (by omega) ?_
    refine ci_put (ci := 11) (C := RX11) (T := TX11) (N := 31) hx hb hts hin11 tyX11 tyX11_ok nmX11 hown hK hC hS rfl rfl 6 (by decide) rfl hfl13 (Or.inr ⟨rfl, hname, rfl⟩) (v := .ref q1) rfl rfl dX11_init_14 (fun H locs hC hS => ?_)
    refine lv_aload_n hx hb dX11_init_17 rfl (lv_at hl 0 rfl) ?_
    refine lv_iconst (v := (3 : Int32)) hx hb dX11_init_18 (by decide) ?_
    refine ci_newI (K := 1003) (N := 3) hx hb hacint hK hC hS (by decide) rfl rfl (by unfold sing; decide) (fun _ j _ => ⟨_, rfl, trivial⟩) (by decide) (by decide) (by decide) (Nat.le_of_ble_eq_true rfl) (Nat.le_of_ble_eq_true rfl) dX11_init_19 (fun q3 κ4 H hC he kq3 hS => ?_)
    refine W.widen (k := 2) (n := 6) (by omega) (by omega) ?_
    have kq1 := (he q1 (by rw [kq1]; decide)).trans kq1
    refine ci_put (ci := 11) (C := RX11) (T := TX11) (N := 31) hx hb hts hin11 tyX11 tyX11_ok nmX11 hown hK hC hS rfl rfl 7 (by decide) rfl hfl17 (Or.inr ⟨rfl, hname, rfl⟩) (v := .ref q3) rfl rfl dX11_init_21 (fun H locs hC hS => ?_)
    refine lv_aload_n hx hb dX11_init_24 rfl (lv_at hl 0 rfl) ?_
    refine lv_iconst (v := (3 : Int32)) hx hb dX11_init_25 (by decide) ?_
    refine ci_newI (K := 1003) (N := 3) hx hb hacint hK hC hS (by decide) rfl rfl (by unfold sing; decide) (fun _ j _ => ⟨_, rfl, trivial⟩) (by decide) (by decide) (by decide) (Nat.le_of_ble_eq_true rfl) (Nat.le_of_ble_eq_true rfl) dX11_init_26 (fun q5 κ6 H hC he kq5 hS => ?_)
    refine W.widen (k := 3) (n := 9) (by omega) (by omega) ?_
    have kq1 := (he q1 (by rw [kq1]; decide)).trans kq1
    have kq3 := (he q3 (by rw [kq3]; decide)).trans kq3
    refine ci_put (ci := 11) (C := RX11) (T := TX11) (N := 31) hx hb hts hin11 tyX11 tyX11_ok nmX11 hown hK hC hS rfl rfl 8 (by decide) rfl hfl20 (Or.inr ⟨rfl, hname, rfl⟩) (v := .ref q5) rfl rfl dX11_init_28 (fun H locs hC hS => ?_)
    refine lv_aload_n hx hb dX11_init_31 rfl (lv_at hl 0 rfl) ?_
    refine lv_iconst (v := (3 : Int32)) hx hb dX11_init_32 (by decide) ?_
    refine ci_newI (K := 1003) (N := 3) hx hb hacint hK hC hS (by decide) rfl rfl (by unfold sing; decide) (fun _ j _ => ⟨_, rfl, trivial⟩) (by decide) (by decide) (by decide) (Nat.le_of_ble_eq_true rfl) (Nat.le_of_ble_eq_true rfl) dX11_init_33 (fun q7 κ8 H hC he kq7 hS => ?_)
    refine W.widen (k := 4) (n := 12) (by omega) (by omega) ?_
    have kq1 := (he q1 (by rw [kq1]; decide)).trans kq1
    have kq3 := (he q3 (by rw [kq3]; decide)).trans kq3
    have kq5 := (he q5 (by rw [kq5]; decide)).trans kq5
    refine ci_put (ci := 11) (C := RX11) (T := TX11) (N := 31) hx hb hts hin11 tyX11 tyX11_ok nmX11 hown hK hC hS rfl rfl 9 (by decide) rfl hfl23 (Or.inr ⟨rfl, hname, rfl⟩) (v := .ref q7) rfl rfl dX11_init_35 (fun H locs hC hS => ?_)
    refine lv_aload_n hx hb dX11_init_38 rfl (lv_at hl 0 rfl) ?_
    refine lv_bipush (v := (15 : Int32)) hx hb dX11_init_39 (by decide) ?_
    refine ci_rawI (N := 15) hx hb hacint hK hC hS (by decide) (by decide) (by decide) (Nat.le_of_ble_eq_true rfl) (Nat.le_of_ble_eq_true rfl) dX11_init_41 (fun q9 ρ11 H hC hrq9 hoq9 hnq9 hS => ?_)
    refine W.widen (k := 5) (n := 27) (by omega) (by omega) ?_
    refine ci_put (ci := 11) (C := RX11) (T := TX11) (N := 31) hx hb hts hin11 tyX11 tyX11_ok nmX11 hown hK hC hS rfl rfl 10 (by decide) rfl hfl26 (Or.inr ⟨rfl, hname, rfl⟩) (v := .ref q9) rfl rfl dX11_init_43 (fun H locs hC hS => ?_)
    refine lv_aload_n hx hb dX11_init_46 rfl (lv_at hl 0 rfl) ?_
    refine lv_iconst (v := (3 : Int32)) hx hb dX11_init_47 (by decide) ?_
    refine ci_newI (K := 1003) (N := 3) hx hb hacint hK hC hS (by decide) rfl rfl (by unfold sing; decide) (fun _ j _ => ⟨_, rfl, trivial⟩) (by decide) (by decide) (by decide) (Nat.le_of_ble_eq_true rfl) (Nat.le_of_ble_eq_true rfl) dX11_init_48 (fun q12 κ13 H hC he kq12 hS => ?_)
    refine W.widen (k := 6) (n := 30) (by omega) (by omega) ?_
    have kq1 := (he q1 (by rw [kq1]; decide)).trans kq1
    have kq3 := (he q3 (by rw [kq3]; decide)).trans kq3
    have kq5 := (he q5 (by rw [kq5]; decide)).trans kq5
    have kq7 := (he q7 (by rw [kq7]; decide)).trans kq7
    refine ci_put (ci := 11) (C := RX11) (T := TX11) (N := 31) hx hb hts hin11 tyX11 tyX11_ok nmX11 hown hK hC hS rfl rfl 11 (by decide) rfl hfl29 (Or.inr ⟨rfl, hname, rfl⟩) (v := .ref q12) rfl rfl dX11_init_50 (fun H locs hC hS => ?_)
    refine lv_aload_n hx hb dX11_init_53 rfl (lv_at hl 0 rfl) ?_
    refine lv_iconst (v := (3 : Int32)) hx hb dX11_init_54 (by decide) ?_
    refine ci_newI (K := 1003) (N := 3) hx hb hacint hK hC hS (by decide) rfl rfl (by unfold sing; decide) (fun _ j _ => ⟨_, rfl, trivial⟩) (by decide) (by decide) (by decide) (Nat.le_of_ble_eq_true rfl) (Nat.le_of_ble_eq_true rfl) dX11_init_55 (fun q14 κ15 H hC he kq14 hS => ?_)
    refine W.widen (k := 7) (n := 33) (by omega) (by omega) ?_
    have kq1 := (he q1 (by rw [kq1]; decide)).trans kq1
    have kq3 := (he q3 (by rw [kq3]; decide)).trans kq3
    have kq5 := (he q5 (by rw [kq5]; decide)).trans kq5
    have kq7 := (he q7 (by rw [kq7]; decide)).trans kq7
    have kq12 := (he q12 (by rw [kq12]; decide)).trans kq12
    refine ci_put (ci := 11) (C := RX11) (T := TX11) (N := 31) hx hb hts hin11 tyX11 tyX11_ok nmX11 hown hK hC hS rfl rfl 12 (by decide) rfl hfl32 (Or.inr ⟨rfl, hname, rfl⟩) (v := .ref q14) rfl rfl dX11_init_57 (fun H locs hC hS => ?_)
    refine lv_aload_n hx hb dX11_init_60 rfl (lv_at hl 0 rfl) ?_
    refine lv_iconst (v := (5 : Int32)) hx hb dX11_init_61 (by decide) ?_
    refine ci_rawI (N := 5) hx hb hacint hK hC hS (by decide) (by decide) (by decide) (Nat.le_of_ble_eq_true rfl) (Nat.le_of_ble_eq_true rfl) dX11_init_62 (fun q16 ρ18 H hC hrq16 hoq16 hnq16 hS => ?_)
    have neq9_q16 : q9 ≠ q16 := fun e9 => by rw [e9, hnq16] at hrq9; cases hrq9
    have neq16_q9 : q16 ≠ q9 := Ne.symm neq9_q16
    have hrq9 := (hoq16 q9 neq9_q16).trans hrq9
    refine W.widen (k := 8) (n := 38) (by omega) (by omega) ?_
    refine ci_put (ci := 11) (C := RX11) (T := TX11) (N := 31) hx hb hts hin11 tyX11 tyX11_ok nmX11 hown hK hC hS rfl rfl 13 (by decide) rfl hfl35 (Or.inr ⟨rfl, hname, rfl⟩) (v := .ref q16) rfl rfl dX11_init_64 (fun H locs hC hS => ?_)
    refine lv_aload_n hx hb dX11_init_67 rfl (lv_at hl 0 rfl) ?_
    refine lv_bipush (v := (60 : Int32)) hx hb dX11_init_68 (by decide) ?_
    refine ci_rawI (N := 60) hx hb hacint hK hC hS (by decide) (by decide) (by decide) (Nat.le_of_ble_eq_true rfl) (Nat.le_of_ble_eq_true rfl) dX11_init_70 (fun q19 ρ21 H hC hrq19 hoq19 hnq19 hS => ?_)
    have neq9_q19 : q9 ≠ q19 := fun e9 => by rw [e9, hnq19] at hrq9; cases hrq9
    have neq19_q9 : q19 ≠ q9 := Ne.symm neq9_q19
    have hrq9 := (hoq19 q9 neq9_q19).trans hrq9
    have neq16_q19 : q16 ≠ q19 := fun e9 => by rw [e9, hnq19] at hrq16; cases hrq16
    have neq19_q16 : q19 ≠ q16 := Ne.symm neq16_q19
    have hrq16 := (hoq19 q16 neq16_q19).trans hrq16
    refine W.widen (k := 9) (n := 98) (by omega) (by omega) ?_
    refine ci_put (ci := 11) (C := RX11) (T := TX11) (N := 31) hx hb hts hin11 tyX11 tyX11_ok nmX11 hown hK hC hS rfl rfl 14 (by decide) rfl hfl38 (Or.inr ⟨rfl, hname, rfl⟩) (v := .ref q19) rfl rfl dX11_init_72 (fun H locs hC hS => ?_)
    refine lv_aload_n hx hb dX11_init_75 rfl (lv_at hl 0 rfl) ?_
    refine lv_bipush (v := (60 : Int32)) hx hb dX11_init_76 (by decide) ?_
    refine ci_newI (K := 1060) (N := 60) hx hb hacint hK hC hS (by decide) rfl rfl (by unfold sing; decide) (fun _ j _ => ⟨_, rfl, trivial⟩) (by decide) (by decide) (by decide) (Nat.le_of_ble_eq_true rfl) (Nat.le_of_ble_eq_true rfl) dX11_init_78 (fun q22 κ23 H hC he kq22 hS => ?_)
    refine W.widen (k := 10) (n := 158) (by omega) (by omega) ?_
    have kq1 := (he q1 (by rw [kq1]; decide)).trans kq1
    have kq3 := (he q3 (by rw [kq3]; decide)).trans kq3
    have kq5 := (he q5 (by rw [kq5]; decide)).trans kq5
    have kq7 := (he q7 (by rw [kq7]; decide)).trans kq7
    have kq12 := (he q12 (by rw [kq12]; decide)).trans kq12
    have kq14 := (he q14 (by rw [kq14]; decide)).trans kq14
    refine ci_put (ci := 11) (C := RX11) (T := TX11) (N := 31) hx hb hts hin11 tyX11 tyX11_ok nmX11 hown hK hC hS rfl rfl 15 (by decide) rfl hfl41 (Or.inr ⟨rfl, hname, rfl⟩) (v := .ref q22) rfl rfl dX11_init_80 (fun H locs hC hS => ?_)
    refine lv_aload_n hx hb dX11_init_83 rfl (lv_at hl 0 rfl) ?_
    refine lv_bipush (v := (60 : Int32)) hx hb dX11_init_84 (by decide) ?_
    refine ci_newI (K := 1060) (N := 60) hx hb hacint hK hC hS (by decide) rfl rfl (by unfold sing; decide) (fun _ j _ => ⟨_, rfl, trivial⟩) (by decide) (by decide) (by decide) (Nat.le_of_ble_eq_true rfl) (Nat.le_of_ble_eq_true rfl) dX11_init_86 (fun q24 κ25 H hC he kq24 hS => ?_)
    refine W.widen (k := 11) (n := 218) (by omega) (by omega) ?_
    have kq1 := (he q1 (by rw [kq1]; decide)).trans kq1
    have kq3 := (he q3 (by rw [kq3]; decide)).trans kq3
    have kq5 := (he q5 (by rw [kq5]; decide)).trans kq5
    have kq7 := (he q7 (by rw [kq7]; decide)).trans kq7
    have kq12 := (he q12 (by rw [kq12]; decide)).trans kq12
    have kq14 := (he q14 (by rw [kq14]; decide)).trans kq14
    have kq22 := (he q22 (by rw [kq22]; decide)).trans kq22
    refine ci_put (ci := 11) (C := RX11) (T := TX11) (N := 31) hx hb hts hin11 tyX11 tyX11_ok nmX11 hown hK hC hS rfl rfl 16 (by decide) rfl hfl44 (Or.inr ⟨rfl, hname, rfl⟩) (v := .ref q24) rfl rfl dX11_init_88 (fun H locs hC hS => ?_)
    refine lv_aload_n hx hb dX11_init_91 rfl (lv_at hl 0 rfl) ?_
    refine lv_bipush (v := (60 : Int32)) hx hb dX11_init_92 (by decide) ?_
    refine ci_rawI (N := 60) hx hb hacint hK hC hS (by decide) (by decide) (by decide) (Nat.le_of_ble_eq_true rfl) (Nat.le_of_ble_eq_true rfl) dX11_init_94 (fun q26 ρ28 H hC hrq26 hoq26 hnq26 hS => ?_)
    have neq9_q26 : q9 ≠ q26 := fun e9 => by rw [e9, hnq26] at hrq9; cases hrq9
    have neq26_q9 : q26 ≠ q9 := Ne.symm neq9_q26
    have hrq9 := (hoq26 q9 neq9_q26).trans hrq9
    have neq16_q26 : q16 ≠ q26 := fun e9 => by rw [e9, hnq26] at hrq16; cases hrq16
    have neq26_q16 : q26 ≠ q16 := Ne.symm neq16_q26
    have hrq16 := (hoq26 q16 neq16_q26).trans hrq16
    have neq19_q26 : q19 ≠ q26 := fun e9 => by rw [e9, hnq26] at hrq19; cases hrq19
    have neq26_q19 : q26 ≠ q19 := Ne.symm neq19_q26
    have hrq19 := (hoq26 q19 neq19_q26).trans hrq19
    refine W.widen (k := 12) (n := 278) (by omega) (by omega) ?_
    refine ci_put (ci := 11) (C := RX11) (T := TX11) (N := 31) hx hb hts hin11 tyX11 tyX11_ok nmX11 hown hK hC hS rfl rfl 17 (by decide) rfl hfl47 (Or.inr ⟨rfl, hname, rfl⟩) (v := .ref q26) rfl rfl dX11_init_96 (fun H locs hC hS => ?_)
    refine lv_aload_n hx hb dX11_init_99 rfl (lv_at hl 0 rfl) ?_
    refine lv_iconst (v := (4 : Int32)) hx hb dX11_init_100 (by decide) ?_
    refine ci_newI (K := 1004) (N := 4) hx hb hacint hK hC hS (by decide) rfl rfl (by unfold sing; decide) (fun _ j _ => ⟨_, rfl, trivial⟩) (by decide) (by decide) (by decide) (Nat.le_of_ble_eq_true rfl) (Nat.le_of_ble_eq_true rfl) dX11_init_101 (fun q29 κ30 H hC he kq29 hS => ?_)
    refine W.widen (k := 13) (n := 282) (by omega) (by omega) ?_
    have kq1 := (he q1 (by rw [kq1]; decide)).trans kq1
    have kq3 := (he q3 (by rw [kq3]; decide)).trans kq3
    have kq5 := (he q5 (by rw [kq5]; decide)).trans kq5
    have kq7 := (he q7 (by rw [kq7]; decide)).trans kq7
    have kq12 := (he q12 (by rw [kq12]; decide)).trans kq12
    have kq14 := (he q14 (by rw [kq14]; decide)).trans kq14
    have kq22 := (he q22 (by rw [kq22]; decide)).trans kq22
    have kq24 := (he q24 (by rw [kq24]; decide)).trans kq24
    refine ci_put (ci := 11) (C := RX11) (T := TX11) (N := 31) hx hb hts hin11 tyX11 tyX11_ok nmX11 hown hK hC hS rfl rfl 18 (by decide) rfl hfl50 (Or.inr ⟨rfl, hname, rfl⟩) (v := .ref q29) rfl rfl dX11_init_103 (fun H locs hC hS => ?_)
    refine lv_aload_n hx hb dX11_init_106 rfl (lv_at hl 0 rfl) ?_
    refine lv_iconst (v := (4 : Int32)) hx hb dX11_init_107 (by decide) ?_
    refine ci_newI (K := 1004) (N := 4) hx hb hacint hK hC hS (by decide) rfl rfl (by unfold sing; decide) (fun _ j _ => ⟨_, rfl, trivial⟩) (by decide) (by decide) (by decide) (Nat.le_of_ble_eq_true rfl) (Nat.le_of_ble_eq_true rfl) dX11_init_108 (fun q31 κ32 H hC he kq31 hS => ?_)
    refine W.widen (k := 14) (n := 286) (by omega) (by omega) ?_
    have kq1 := (he q1 (by rw [kq1]; decide)).trans kq1
    have kq3 := (he q3 (by rw [kq3]; decide)).trans kq3
    have kq5 := (he q5 (by rw [kq5]; decide)).trans kq5
    have kq7 := (he q7 (by rw [kq7]; decide)).trans kq7
    have kq12 := (he q12 (by rw [kq12]; decide)).trans kq12
    have kq14 := (he q14 (by rw [kq14]; decide)).trans kq14
    have kq22 := (he q22 (by rw [kq22]; decide)).trans kq22
    have kq24 := (he q24 (by rw [kq24]; decide)).trans kq24
    have kq29 := (he q29 (by rw [kq29]; decide)).trans kq29
    refine ci_put (ci := 11) (C := RX11) (T := TX11) (N := 31) hx hb hts hin11 tyX11 tyX11_ok nmX11 hown hK hC hS rfl rfl 19 (by decide) rfl hfl53 (Or.inr ⟨rfl, hname, rfl⟩) (v := .ref q31) rfl rfl dX11_init_110 (fun H locs hC hS => ?_)
    refine lv_aload_n hx hb dX11_init_113 rfl (lv_at hl 0 rfl) ?_
    refine lv_iconst (v := (4 : Int32)) hx hb dX11_init_114 (by decide) ?_
    refine ci_newI (K := 1004) (N := 4) hx hb hacint hK hC hS (by decide) rfl rfl (by unfold sing; decide) (fun _ j _ => ⟨_, rfl, trivial⟩) (by decide) (by decide) (by decide) (Nat.le_of_ble_eq_true rfl) (Nat.le_of_ble_eq_true rfl) dX11_init_115 (fun q33 κ34 H hC he kq33 hS => ?_)
    refine W.widen (k := 15) (n := 290) (by omega) (by omega) ?_
    have kq1 := (he q1 (by rw [kq1]; decide)).trans kq1
    have kq3 := (he q3 (by rw [kq3]; decide)).trans kq3
    have kq5 := (he q5 (by rw [kq5]; decide)).trans kq5
    have kq7 := (he q7 (by rw [kq7]; decide)).trans kq7
    have kq12 := (he q12 (by rw [kq12]; decide)).trans kq12
    have kq14 := (he q14 (by rw [kq14]; decide)).trans kq14
    have kq22 := (he q22 (by rw [kq22]; decide)).trans kq22
    have kq24 := (he q24 (by rw [kq24]; decide)).trans kq24
    have kq29 := (he q29 (by rw [kq29]; decide)).trans kq29
    have kq31 := (he q31 (by rw [kq31]; decide)).trans kq31
    refine ci_put (ci := 11) (C := RX11) (T := TX11) (N := 31) hx hb hts hin11 tyX11 tyX11_ok nmX11 hown hK hC hS rfl rfl 20 (by decide) rfl hfl56 (Or.inr ⟨rfl, hname, rfl⟩) (v := .ref q33) rfl rfl dX11_init_117 (fun H locs hC hS => ?_)
    refine lv_aload_n hx hb dX11_init_120 rfl (lv_at hl 0 rfl) ?_
    refine lv_bipush (v := (30 : Int32)) hx hb dX11_init_121 (by decide) ?_
    refine ci_newI (K := 1030) (N := 30) hx hb hacint hK hC hS (by decide) rfl rfl (by unfold sing; decide) (fun _ j _ => ⟨_, rfl, trivial⟩) (by decide) (by decide) (by decide) (Nat.le_of_ble_eq_true rfl) (Nat.le_of_ble_eq_true rfl) dX11_init_123 (fun q35 κ36 H hC he kq35 hS => ?_)
    refine W.widen (k := 16) (n := 320) (by omega) (by omega) ?_
    have kq1 := (he q1 (by rw [kq1]; decide)).trans kq1
    have kq3 := (he q3 (by rw [kq3]; decide)).trans kq3
    have kq5 := (he q5 (by rw [kq5]; decide)).trans kq5
    have kq7 := (he q7 (by rw [kq7]; decide)).trans kq7
    have kq12 := (he q12 (by rw [kq12]; decide)).trans kq12
    have kq14 := (he q14 (by rw [kq14]; decide)).trans kq14
    have kq22 := (he q22 (by rw [kq22]; decide)).trans kq22
    have kq24 := (he q24 (by rw [kq24]; decide)).trans kq24
    have kq29 := (he q29 (by rw [kq29]; decide)).trans kq29
    have kq31 := (he q31 (by rw [kq31]; decide)).trans kq31
    have kq33 := (he q33 (by rw [kq33]; decide)).trans kq33
    refine ci_put (ci := 11) (C := RX11) (T := TX11) (N := 31) hx hb hts hin11 tyX11 tyX11_ok nmX11 hown hK hC hS rfl rfl 27 (by decide) rfl hfl59 (Or.inr ⟨rfl, hname, rfl⟩) (v := .ref q35) rfl rfl dX11_init_125 (fun H locs hC hS => ?_)
    refine lv_aload_n hx hb dX11_init_128 rfl (lv_at hl 0 rfl) ?_
    refine lv_bipush (v := (30 : Int32)) hx hb dX11_init_129 (by decide) ?_
    refine ci_newJ (K := 2030) (N := 30) hx hb haclong hK hC hS (by decide) rfl rfl (by unfold sing; decide) (fun _ j _ => ⟨_, rfl, trivial⟩) (by decide) (by decide) (by decide) (Nat.le_of_ble_eq_true rfl) (Nat.le_of_ble_eq_true rfl) dX11_init_131 (fun q37 κ38 H hC he kq37 hS => ?_)
    refine W.widen (k := 17) (n := 350) (by omega) (by omega) ?_
    have kq1 := (he q1 (by rw [kq1]; decide)).trans kq1
    have kq3 := (he q3 (by rw [kq3]; decide)).trans kq3
    have kq5 := (he q5 (by rw [kq5]; decide)).trans kq5
    have kq7 := (he q7 (by rw [kq7]; decide)).trans kq7
    have kq12 := (he q12 (by rw [kq12]; decide)).trans kq12
    have kq14 := (he q14 (by rw [kq14]; decide)).trans kq14
    have kq22 := (he q22 (by rw [kq22]; decide)).trans kq22
    have kq24 := (he q24 (by rw [kq24]; decide)).trans kq24
    have kq29 := (he q29 (by rw [kq29]; decide)).trans kq29
    have kq31 := (he q31 (by rw [kq31]; decide)).trans kq31
    have kq33 := (he q33 (by rw [kq33]; decide)).trans kq33
    have kq35 := (he q35 (by rw [kq35]; decide)).trans kq35
    refine ci_put (ci := 11) (C := RX11) (T := TX11) (N := 31) hx hb hts hin11 tyX11 tyX11_ok nmX11 hown hK hC hS rfl rfl 28 (by decide) rfl hfl62 (Or.inr ⟨rfl, hname, rfl⟩) (v := .ref q37) rfl rfl dX11_init_133 (fun H locs hC hS => ?_)
    refine lv_aload_n hx hb dX11_init_136 rfl (lv_at hl 0 rfl) ?_
    refine lv_bipush (v := (30 : Int32)) hx hb dX11_init_137 (by decide) ?_
    refine ci_rawJ (N := 30) hx hb haclong hK hC hS (by decide) (by decide) (by decide) (Nat.le_of_ble_eq_true rfl) (Nat.le_of_ble_eq_true rfl) dX11_init_139 (fun q39 ρ41 H hC hrq39 hoq39 hnq39 hS => ?_)
    have neq9_q39 : q9 ≠ q39 := fun e9 => by rw [e9, hnq39] at hrq9; cases hrq9
    have neq39_q9 : q39 ≠ q9 := Ne.symm neq9_q39
    have hrq9 := (hoq39 q9 neq9_q39).trans hrq9
    have neq16_q39 : q16 ≠ q39 := fun e9 => by rw [e9, hnq39] at hrq16; cases hrq16
    have neq39_q16 : q39 ≠ q16 := Ne.symm neq16_q39
    have hrq16 := (hoq39 q16 neq16_q39).trans hrq16
    have neq19_q39 : q19 ≠ q39 := fun e9 => by rw [e9, hnq39] at hrq19; cases hrq19
    have neq39_q19 : q39 ≠ q19 := Ne.symm neq19_q39
    have hrq19 := (hoq39 q19 neq19_q39).trans hrq19
    have neq26_q39 : q26 ≠ q39 := fun e9 => by rw [e9, hnq39] at hrq26; cases hrq26
    have neq39_q26 : q39 ≠ q26 := Ne.symm neq26_q39
    have hrq26 := (hoq39 q26 neq26_q39).trans hrq26
    refine W.widen (k := 18) (n := 380) (by omega) (by omega) ?_
    refine ci_put (ci := 11) (C := RX11) (T := TX11) (N := 31) hx hb hts hin11 tyX11 tyX11_ok nmX11 hown hK hC hS rfl rfl 29 (by decide) rfl hfl66 (Or.inr ⟨rfl, hname, rfl⟩) (v := .ref q39) rfl rfl dX11_init_141 (fun H locs hC hS => ?_)
    have hnm := hC.noM hm
    have T0 := hC.1
    have hz0 := hC.2.2.2.2.1
    have hN0 : ∀ q, κ38 q ≠ 0 → κ0 q ≠ 0 ∨ q = h0 ∨ sz ≤ q := fun q h => (hz0 q h).elim Or.inl (fun h => Or.inr (Or.inr h))
    have hX0 := hC.2.2.2.1
    have z_h0 : κ38 h0 = 0 := hC.2.2.1
    have hlt0 := hC.2.2.2.2.2.2.2.1
    obtain ⟨c_q9, z_q9, l_q9⟩ := hC.2.2.2.2.2.2.2.2 q9 _ hrq9
    have n_q9 : h0 ≠ q9 := by omega
    obtain ⟨c_q16, z_q16, l_q16⟩ := hC.2.2.2.2.2.2.2.2 q16 _ hrq16
    have n_q16 : h0 ≠ q16 := by omega
    obtain ⟨c_q19, z_q19, l_q19⟩ := hC.2.2.2.2.2.2.2.2 q19 _ hrq19
    have n_q19 : h0 ≠ q19 := by omega
    obtain ⟨c_q26, z_q26, l_q26⟩ := hC.2.2.2.2.2.2.2.2 q26 _ hrq26
    have n_q26 : h0 ≠ q26 := by omega
    obtain ⟨c_q39, z_q39, l_q39⟩ := hC.2.2.2.2.2.2.2.2 q39 _ hrq39
    have n_q39 : h0 ≠ q39 := by omega
    have no12 : ∀ b, κ38 b ≠ 12 := fun b => (hnm b).1
    have no50 : ∀ b, κ38 b ≠ 50 := fun b => (hnm b).2.1
    have no51 : ∀ b, κ38 b ≠ 51 := fun b => (hnm b).2.2.1
    have no52 : ∀ b, κ38 b ≠ 52 := fun b => (hnm b).2.2.2.1
    have no53 : ∀ b, κ38 b ≠ 53 := fun b => (hnm b).2.2.2.2.1
    have no54 : ∀ b, κ38 b ≠ 54 := fun b => (hnm b).2.2.2.2.2
    obtain ⟨κ42, eκ42⟩ : ∃ k : Nat → Nat, k = va_up κ38 q9 53 := ⟨_, rfl⟩
    have T1 := T0.seal (K := 53) z_q9 (by decide) (fun c2 h9 _ => absurd h9 (by omega)) (fun _ => ⟨_, c_q9, fun j hj => ⟨0, rfl, fun h => absurd h (by show ¬ ((j : Int) < 0); omega)⟩⟩) (fun _ => no53)
    rw [← eκ42] at T1
    have he : ext κ38 κ42 := by rw [eκ42]; exact ext.up z_q9
    have hX1 := hX0.tr he
    have hN1 : ∀ q, κ42 q ≠ 0 → κ0 q ≠ 0 ∨ q = h0 ∨ sz ≤ q := by rw [eκ42]; exact up_nz hN0 (Or.inr l_q9)
    have no50 : ∀ b, κ42 b ≠ 50 := by rw [eκ42]; exact up_no no50 (by decide)
    have no51 : ∀ b, κ42 b ≠ 51 := by rw [eκ42]; exact up_no no51 (by decide)
    have no52 : ∀ b, κ42 b ≠ 52 := by rw [eκ42]; exact up_no no52 (by decide)
    have no54 : ∀ b, κ42 b ≠ 54 := by rw [eκ42]; exact up_no no54 (by decide)
    have no12 : ∀ b, κ42 b ≠ 12 := by rw [eκ42]; exact up_no no12 (by decide)
    have z_q16 : κ42 q16 = 0 := by rw [eκ42]; exact up_z z_q16 neq16_q9
    have z_q19 : κ42 q19 = 0 := by rw [eκ42]; exact up_z z_q19 neq19_q9
    have z_q26 : κ42 q26 = 0 := by rw [eκ42]; exact up_z z_q26 neq26_q9
    have z_q39 : κ42 q39 = 0 := by rw [eκ42]; exact up_z z_q39 neq39_q9
    have z_h0 : κ42 h0 = 0 := by rw [eκ42]; exact up_z z_h0 n_q9
    have kq1 := (he q1 (by rw [kq1]; decide)).trans kq1
    have kq3 := (he q3 (by rw [kq3]; decide)).trans kq3
    have kq5 := (he q5 (by rw [kq5]; decide)).trans kq5
    have kq7 := (he q7 (by rw [kq7]; decide)).trans kq7
    have kq12 := (he q12 (by rw [kq12]; decide)).trans kq12
    have kq14 := (he q14 (by rw [kq14]; decide)).trans kq14
    have kq22 := (he q22 (by rw [kq22]; decide)).trans kq22
    have kq24 := (he q24 (by rw [kq24]; decide)).trans kq24
    have kq29 := (he q29 (by rw [kq29]; decide)).trans kq29
    have kq31 := (he q31 (by rw [kq31]; decide)).trans kq31
    have kq33 := (he q33 (by rw [kq33]; decide)).trans kq33
    have kq35 := (he q35 (by rw [kq35]; decide)).trans kq35
    have kq37 := (he q37 (by rw [kq37]; decide)).trans kq37
    have kq9 : κ42 q9 = 53 := by rw [eκ42]; exact if_pos rfl
    obtain ⟨κ43, eκ43⟩ : ∃ k : Nat → Nat, k = va_up κ42 q16 50 := ⟨_, rfl⟩
    have T2 := T1.seal (K := 50) z_q16 (by decide) (fun c2 h9 _ => absurd h9 (by omega)) (fun _ => ⟨_, c_q16, fun j hj => ⟨0, rfl, rfl, by decide, fun _ => rfl⟩⟩) (fun _ => no50)
    rw [← eκ43] at T2
    have he : ext κ42 κ43 := by rw [eκ43]; exact ext.up z_q16
    have hX2 := hX1.tr he
    have hN2 : ∀ q, κ43 q ≠ 0 → κ0 q ≠ 0 ∨ q = h0 ∨ sz ≤ q := by rw [eκ43]; exact up_nz hN1 (Or.inr l_q16)
    have no51 : ∀ b, κ43 b ≠ 51 := by rw [eκ43]; exact up_no no51 (by decide)
    have no52 : ∀ b, κ43 b ≠ 52 := by rw [eκ43]; exact up_no no52 (by decide)
    have no54 : ∀ b, κ43 b ≠ 54 := by rw [eκ43]; exact up_no no54 (by decide)
    have no12 : ∀ b, κ43 b ≠ 12 := by rw [eκ43]; exact up_no no12 (by decide)
    have z_q19 : κ43 q19 = 0 := by rw [eκ43]; exact up_z z_q19 neq19_q16
    have z_q26 : κ43 q26 = 0 := by rw [eκ43]; exact up_z z_q26 neq26_q16
    have z_q39 : κ43 q39 = 0 := by rw [eκ43]; exact up_z z_q39 neq39_q16
    have z_h0 : κ43 h0 = 0 := by rw [eκ43]; exact up_z z_h0 n_q16
    have kq1 := (he q1 (by rw [kq1]; decide)).trans kq1
    have kq3 := (he q3 (by rw [kq3]; decide)).trans kq3
    have kq5 := (he q5 (by rw [kq5]; decide)).trans kq5
    have kq7 := (he q7 (by rw [kq7]; decide)).trans kq7
    have kq12 := (he q12 (by rw [kq12]; decide)).trans kq12
    have kq14 := (he q14 (by rw [kq14]; decide)).trans kq14
    have kq22 := (he q22 (by rw [kq22]; decide)).trans kq22
    have kq24 := (he q24 (by rw [kq24]; decide)).trans kq24
    have kq29 := (he q29 (by rw [kq29]; decide)).trans kq29
    have kq31 := (he q31 (by rw [kq31]; decide)).trans kq31
    have kq33 := (he q33 (by rw [kq33]; decide)).trans kq33
    have kq35 := (he q35 (by rw [kq35]; decide)).trans kq35
    have kq37 := (he q37 (by rw [kq37]; decide)).trans kq37
    have kq9 := (he q9 (by rw [kq9]; decide)).trans kq9
    have kq16 : κ43 q16 = 50 := by rw [eκ43]; exact if_pos rfl
    obtain ⟨κ44, eκ44⟩ : ∃ k : Nat → Nat, k = va_up κ43 q19 51 := ⟨_, rfl⟩
    have T3 := T2.seal (K := 51) z_q19 (by decide) (fun c2 h9 _ => absurd h9 (by omega)) (fun _ => ⟨_, c_q19, fun j hj => ⟨0, rfl, by decide, Or.inl rfl⟩⟩) (fun _ => no51)
    rw [← eκ44] at T3
    have he : ext κ43 κ44 := by rw [eκ44]; exact ext.up z_q19
    have hX3 := hX2.tr he
    have hN3 : ∀ q, κ44 q ≠ 0 → κ0 q ≠ 0 ∨ q = h0 ∨ sz ≤ q := by rw [eκ44]; exact up_nz hN2 (Or.inr l_q19)
    have no52 : ∀ b, κ44 b ≠ 52 := by rw [eκ44]; exact up_no no52 (by decide)
    have no54 : ∀ b, κ44 b ≠ 54 := by rw [eκ44]; exact up_no no54 (by decide)
    have no12 : ∀ b, κ44 b ≠ 12 := by rw [eκ44]; exact up_no no12 (by decide)
    have z_q26 : κ44 q26 = 0 := by rw [eκ44]; exact up_z z_q26 neq26_q19
    have z_q39 : κ44 q39 = 0 := by rw [eκ44]; exact up_z z_q39 neq39_q19
    have z_h0 : κ44 h0 = 0 := by rw [eκ44]; exact up_z z_h0 n_q19
    have kq1 := (he q1 (by rw [kq1]; decide)).trans kq1
    have kq3 := (he q3 (by rw [kq3]; decide)).trans kq3
    have kq5 := (he q5 (by rw [kq5]; decide)).trans kq5
    have kq7 := (he q7 (by rw [kq7]; decide)).trans kq7
    have kq12 := (he q12 (by rw [kq12]; decide)).trans kq12
    have kq14 := (he q14 (by rw [kq14]; decide)).trans kq14
    have kq22 := (he q22 (by rw [kq22]; decide)).trans kq22
    have kq24 := (he q24 (by rw [kq24]; decide)).trans kq24
    have kq29 := (he q29 (by rw [kq29]; decide)).trans kq29
    have kq31 := (he q31 (by rw [kq31]; decide)).trans kq31
    have kq33 := (he q33 (by rw [kq33]; decide)).trans kq33
    have kq35 := (he q35 (by rw [kq35]; decide)).trans kq35
    have kq37 := (he q37 (by rw [kq37]; decide)).trans kq37
    have kq9 := (he q9 (by rw [kq9]; decide)).trans kq9
    have kq16 := (he q16 (by rw [kq16]; decide)).trans kq16
    have kq19 : κ44 q19 = 51 := by rw [eκ44]; exact if_pos rfl
    obtain ⟨κ45, eκ45⟩ : ∃ k : Nat → Nat, k = va_up κ44 q26 52 := ⟨_, rfl⟩
    have T4 := T3.seal (K := 52) z_q26 (by decide) (fun c2 h9 _ => absurd h9 (by omega)) (fun _ => ⟨_, c_q26, fun j hj => ⟨0, rfl, rfl, by decide⟩⟩) (fun _ => no52)
    rw [← eκ45] at T4
    have he : ext κ44 κ45 := by rw [eκ45]; exact ext.up z_q26
    have hX4 := hX3.tr he
    have hN4 : ∀ q, κ45 q ≠ 0 → κ0 q ≠ 0 ∨ q = h0 ∨ sz ≤ q := by rw [eκ45]; exact up_nz hN3 (Or.inr l_q26)
    have no54 : ∀ b, κ45 b ≠ 54 := by rw [eκ45]; exact up_no no54 (by decide)
    have no12 : ∀ b, κ45 b ≠ 12 := by rw [eκ45]; exact up_no no12 (by decide)
    have z_q39 : κ45 q39 = 0 := by rw [eκ45]; exact up_z z_q39 neq39_q26
    have z_h0 : κ45 h0 = 0 := by rw [eκ45]; exact up_z z_h0 n_q26
    have kq1 := (he q1 (by rw [kq1]; decide)).trans kq1
    have kq3 := (he q3 (by rw [kq3]; decide)).trans kq3
    have kq5 := (he q5 (by rw [kq5]; decide)).trans kq5
    have kq7 := (he q7 (by rw [kq7]; decide)).trans kq7
    have kq12 := (he q12 (by rw [kq12]; decide)).trans kq12
    have kq14 := (he q14 (by rw [kq14]; decide)).trans kq14
    have kq22 := (he q22 (by rw [kq22]; decide)).trans kq22
    have kq24 := (he q24 (by rw [kq24]; decide)).trans kq24
    have kq29 := (he q29 (by rw [kq29]; decide)).trans kq29
    have kq31 := (he q31 (by rw [kq31]; decide)).trans kq31
    have kq33 := (he q33 (by rw [kq33]; decide)).trans kq33
    have kq35 := (he q35 (by rw [kq35]; decide)).trans kq35
    have kq37 := (he q37 (by rw [kq37]; decide)).trans kq37
    have kq9 := (he q9 (by rw [kq9]; decide)).trans kq9
    have kq16 := (he q16 (by rw [kq16]; decide)).trans kq16
    have kq19 := (he q19 (by rw [kq19]; decide)).trans kq19
    have kq26 : κ45 q26 = 52 := by rw [eκ45]; exact if_pos rfl
    obtain ⟨κ46, eκ46⟩ : ∃ k : Nat → Nat, k = va_up κ45 q39 54 := ⟨_, rfl⟩
    have T5 := T4.seal (K := 54) z_q39 (by decide) (fun c2 h9 _ => absurd h9 (by omega)) (fun _ => ⟨_, c_q39, fun j hj => ⟨0, rfl, fun h => absurd h (by show ¬ ((j : Int) < 0); omega)⟩⟩) (fun _ => no54)
    rw [← eκ46] at T5
    have he : ext κ45 κ46 := by rw [eκ46]; exact ext.up z_q39
    have hX5 := hX4.tr he
    have hN5 : ∀ q, κ46 q ≠ 0 → κ0 q ≠ 0 ∨ q = h0 ∨ sz ≤ q := by rw [eκ46]; exact up_nz hN4 (Or.inr l_q39)
    have no12 : ∀ b, κ46 b ≠ 12 := by rw [eκ46]; exact up_no no12 (by decide)
    have z_h0 : κ46 h0 = 0 := by rw [eκ46]; exact up_z z_h0 n_q39
    have kq1 := (he q1 (by rw [kq1]; decide)).trans kq1
    have kq3 := (he q3 (by rw [kq3]; decide)).trans kq3
    have kq5 := (he q5 (by rw [kq5]; decide)).trans kq5
    have kq7 := (he q7 (by rw [kq7]; decide)).trans kq7
    have kq12 := (he q12 (by rw [kq12]; decide)).trans kq12
    have kq14 := (he q14 (by rw [kq14]; decide)).trans kq14
    have kq22 := (he q22 (by rw [kq22]; decide)).trans kq22
    have kq24 := (he q24 (by rw [kq24]; decide)).trans kq24
    have kq29 := (he q29 (by rw [kq29]; decide)).trans kq29
    have kq31 := (he q31 (by rw [kq31]; decide)).trans kq31
    have kq33 := (he q33 (by rw [kq33]; decide)).trans kq33
    have kq35 := (he q35 (by rw [kq35]; decide)).trans kq35
    have kq37 := (he q37 (by rw [kq37]; decide)).trans kq37
    have kq9 := (he q9 (by rw [kq9]; decide)).trans kq9
    have kq16 := (he q16 (by rw [kq16]; decide)).trans kq16
    have kq19 := (he q19 (by rw [kq19]; decide)).trans kq19
    have kq26 := (he q26 (by rw [kq26]; decide)).trans kq26
    have kq39 : κ46 q39 = 54 := by rw [eκ46]; exact if_pos rfl
    have hV : ∀ k, k < 31 → fsp (va_up κ46 h0 (11 + 1)) Z0 (11 + 1) k h0 ((updV (updV (updV (updV (updV (updV (updV (updV (updV (updV (updV (updV (updV (updV (updV (updV (updV (updV (updV (fun k => defaultValue (tyX11 k)) 3 (.int (12 : Int32))) 6 (.ref q1)) 7 (.ref q3)) 8 (.ref q5)) 9 (.ref q7)) 10 (.ref q9)) 11 (.ref q12)) 12 (.ref q14)) 13 (.ref q16)) 14 (.ref q19)) 15 (.ref q22)) 16 (.ref q24)) 17 (.ref q26)) 18 (.ref q29)) 19 (.ref q31)) 20 (.ref q33)) 27 (.ref q35)) 28 (.ref q37)) 29 (.ref q39)) k) := by
      intro k hk
      rcases (show k = 0 ∨ k = 1 ∨ k = 2 ∨ k = 3 ∨ k = 4 ∨ k = 5 ∨ k = 6 ∨ k = 7 ∨ k = 8 ∨ k = 9 ∨ k = 10 ∨ k = 11 ∨ k = 12 ∨ k = 13 ∨ k = 14 ∨ k = 15 ∨ k = 16 ∨ k = 17 ∨ k = 18 ∨ k = 19 ∨ k = 20 ∨ k = 21 ∨ k = 22 ∨ k = 23 ∨ k = 24 ∨ k = 25 ∨ k = 26 ∨ k = 27 ∨ k = 28 ∨ k = 29 ∨ k = 30 by omega) with rfl | rfl | rfl | rfl | rfl | rfl | rfl | rfl | rfl | rfl | rfl | rfl | rfl | rfl | rfl | rfl | rfl | rfl | rfl | rfl | rfl | rfl | rfl | rfl | rfl | rfl | rfl | rfl | rfl | rfl | rfl
      · exact ⟨_, rfl, rfl, by decide⟩
      · exact ⟨_, rfl, rfl, by decide⟩
      · exact ⟨_, rfl, rfl, by decide⟩
      · exact ⟨_, rfl, trivial⟩
      · exact ⟨_, rfl, trivial⟩
      · exact ⟨_, rfl, trivial⟩
      · exact ⟨q1, rfl, (ext.up z_h0 q1 (by rw [kq1]; decide)).trans kq1⟩
      · exact ⟨q3, rfl, (ext.up z_h0 q3 (by rw [kq3]; decide)).trans kq3⟩
      · exact ⟨q5, rfl, (ext.up z_h0 q5 (by rw [kq5]; decide)).trans kq5⟩
      · exact ⟨q7, rfl, (ext.up z_h0 q7 (by rw [kq7]; decide)).trans kq7⟩
      · exact ⟨q9, rfl, (ext.up z_h0 q9 (by rw [kq9]; decide)).trans kq9⟩
      · exact ⟨q12, rfl, (ext.up z_h0 q12 (by rw [kq12]; decide)).trans kq12⟩
      · exact ⟨q14, rfl, (ext.up z_h0 q14 (by rw [kq14]; decide)).trans kq14⟩
      · exact ⟨q16, rfl, (ext.up z_h0 q16 (by rw [kq16]; decide)).trans kq16⟩
      · exact ⟨q19, rfl, (ext.up z_h0 q19 (by rw [kq19]; decide)).trans kq19⟩
      · exact ⟨q22, rfl, (ext.up z_h0 q22 (by rw [kq22]; decide)).trans kq22⟩
      · exact ⟨q24, rfl, (ext.up z_h0 q24 (by rw [kq24]; decide)).trans kq24⟩
      · exact ⟨q26, rfl, (ext.up z_h0 q26 (by rw [kq26]; decide)).trans kq26⟩
      · exact ⟨q29, rfl, (ext.up z_h0 q29 (by rw [kq29]; decide)).trans kq29⟩
      · exact ⟨q31, rfl, (ext.up z_h0 q31 (by rw [kq31]; decide)).trans kq31⟩
      · exact ⟨q33, rfl, (ext.up z_h0 q33 (by rw [kq33]; decide)).trans kq33⟩
      · exact ⟨_, rfl, trivial⟩
      · exact ⟨_, rfl, trivial⟩
      · exact ⟨_, rfl, trivial⟩
      · exact ⟨_, rfl, trivial⟩
      · exact ⟨_, rfl, rfl⟩
      · exact ⟨_, rfl, rfl⟩
      · exact ⟨q35, rfl, (ext.up z_h0 q35 (by rw [kq35]; decide)).trans kq35⟩
      · exact ⟨q37, rfl, (ext.up z_h0 q37 (by rw [kq37]; decide)).trans kq37⟩
      · exact ⟨q39, rfl, (ext.up z_h0 q39 (by rw [kq39]; decide)).trans kq39⟩
      · exact ⟨_, rfl, rfl, by decide⟩
    have hobj : ∀ c2, 12 = c2 + 1 → c2 < 12 → ∃ V : Nat → Value, t_OB h0 (D.1 c2) (nF c2) (D.2 c2) H V ∧ ∀ k, k < nF c2 → fsp (va_up κ46 h0 12) Z0 (c2 + 1) k h0 (V k) := by
      intro c2 h9 _
      have h11 : c2 = 11 := by omega
      subst h11
      exact ⟨_, hC.2.1, hV⟩
    have TF := T5.seal (K := 12) z_h0 (by decide) hobj (fun h9 => absurd h9 (by decide)) (fun _ => no12)
    exact hret H locs ls 144 _ dX11_init_144 ⟨hX5.tr (ext.up z_h0), if_pos rfl, up_nz hN5 (Or.inl rfl)⟩ TF hS
  exact main s.heap [] hC va_S.rf
