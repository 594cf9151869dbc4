abbrev rmX3_init : Room := { frames := 1, cells := 0, slots := 0, locals := 32 }
set_option maxHeartbeats 4000000 in
set_option maxRecDepth 100000 in
theorem c_X3_init (l : Launch) (D : va_G) (cy : Nat → ClassId) (κ : Nat → Nat) (G : Gh) (p0 : Nat) (k0 : κ p0 = 4) : Met l yX3_init wsX3_init rmX3_init (va_Pc [.ref p0] (fun U => WW D cy κ G U)) (va_Qv (fun u : Gh => u = G ∧ (True)) (fun u t => WW D cy κ u t) (AA κ)) 0 0 (AA κ) := by
  refine Met.twv (cc := cX3_init) (maxL := 1) (by decide) rfl (Nat.le_of_ble_eq_true rfl) ?_
  intro p e s m args below meth c Q hx hb hml hown hts hK hT hret ls hl
  have hl : lv_has ls 1 [(0, .ref p0)] := hl
  have hoi1 := hts (.methodLink RX3 3 objectInit) (by decide +kernel)
  have hoi2 := hts (.instanceMethod objectInit) (by decide +kernel)
  have hoi3 := hts (.code objectInit ⟨#[0xb1]⟩ 1 none) (by decide +kernel)
  have hlc0 : (0 : Int64).toInt = 0 := rfl
  have hfl9 := hts (.fieldLink RX3 9 "PlyPlates$Fraction" "above" "J") (by decide +kernel)
  have hin3 : ∀ w ∈ u_ws RX3 TX3 2, w ∈ wsX3_init := by decide +kernel
  have hlc1 : (1 : Int64).toInt = 1 := rfl
  have hfl15 := hts (.fieldLink RX3 15 "PlyPlates$Fraction" "below" "J") (by decide +kernel)
  have main : ∀ (H : Heap) (locs : List Loc), TW D cy κ G H → va_S (AA κ) s.heap H locs → W p l e rmX3_init s m args below meth c H locs 0 0 Q (F0 m 0 ls []) := by
    intro H locs hT hS
    refine lv_aload_n hx hb dX3_init_0 rfl (lv_at hl 0 rfl) ?_
    refine W.objInit hx hb hown hoi1 hoi2 hoi3 rfl (by rw [hml]; exact hl.1) rfl dX3_init_1 (Nat.le_of_ble_eq_true rfl) (Nat.le_of_ble_eq_true rfl) ?_
    refine W.eq (g2 := F0 m 4 ls []) rfl ?_
    refine lv_aload_n hx hb dX3_init_4 rfl (lv_at hl 0 rfl) ?_
    refine lv_lconst (v := 0) hx hb dX3_init_5 (by decide) ?_
    refine pf_3_0 hx hb hts hin3 hown hK hT hS k0 hfl9 dX3_init_6 (fun H locs hT hS => ?_)
    refine lv_aload_n hx hb dX3_init_9 rfl (lv_at hl 0 rfl) ?_
    refine lv_lconst (v := 1) hx hb dX3_init_10 (by decide) ?_
    refine pf_3_1 hx hb hts hin3 hown hK hT hS k0 hfl15 dX3_init_11 (fun H locs hT hS => ?_)
    exact hret H locs ls 14 G dX3_init_14 ⟨rfl, trivial⟩ hT hS
  exact main s.heap [] hT va_S.rf

abbrev rmX4_init : Room := { frames := 1, cells := 0, slots := 0, locals := 32 }
set_option maxHeartbeats 4000000 in
set_option maxRecDepth 100000 in
theorem c_X4_init (l : Launch) (D : va_G) (cy : Nat → ClassId) (κ : Nat → Nat) (G : Gh) (p0 : Nat) (k0 : κ p0 = 5) : Met l yX4_init wsX4_init rmX4_init (va_Pc [.ref p0] (fun U => WW D cy κ G U)) (va_Qv (fun u : Gh => u = G ∧ (True)) (fun u t => WW D cy κ u t) (AA κ)) 0 0 (AA κ) := by
  refine Met.twv (cc := cX4_init) (maxL := 1) (by decide) rfl (Nat.le_of_ble_eq_true rfl) ?_
  intro p e s m args below meth c Q hx hb hml hown hts hK hT hret ls hl
  have hl : lv_has ls 1 [(0, .ref p0)] := hl
  have hoi1 := hts (.methodLink RX4 3 objectInit) (by decide +kernel)
  have hoi2 := hts (.instanceMethod objectInit) (by decide +kernel)
  have hoi3 := hts (.code objectInit ⟨#[0xb1]⟩ 1 none) (by decide +kernel)
  have hc12 : (12 : Int32).toInt = 12 := rfl
  have hfl9 := hts (.fieldLink RX4 9 "PlyPlates$LayRules" "mostRun" "I") (by decide +kernel)
  have hin4 : ∀ w ∈ u_ws RX4 TX4 3, w ∈ wsX4_init := by decide +kernel
  have hc0 : (0 : Int32).toInt = 0 := rfl
  have hfl15 := hts (.fieldLink RX4 15 "PlyPlates$LayRules" "isStepRuled" "Z") (by decide +kernel)
  have hfl19 := hts (.fieldLink RX4 19 "PlyPlates$LayRules" "leastEach" "I") (by decide +kernel)
  have main : ∀ (H : Heap) (locs : List Loc), TW D cy κ G H → va_S (AA κ) s.heap H locs → W p l e rmX4_init s m args below meth c H locs 0 0 Q (F0 m 0 ls []) := by
    intro H locs hT hS
    refine lv_aload_n hx hb dX4_init_0 rfl (lv_at hl 0 rfl) ?_
    refine W.objInit hx hb hown hoi1 hoi2 hoi3 rfl (by rw [hml]; exact hl.1) rfl dX4_init_1 (Nat.le_of_ble_eq_true rfl) (Nat.le_of_ble_eq_true rfl) ?_
    refine W.eq (g2 := F0 m 4 ls []) rfl ?_
    refine lv_aload_n hx hb dX4_init_4 rfl (lv_at hl 0 rfl) ?_
    refine lv_bipush (v := (12 : Int32)) hx hb dX4_init_5 (by decide) ?_
    refine pf_4_0 hx hb hts hin4 hown hK hT hS k0 hfl9 dX4_init_7 (fun H locs hT hS => ?_)
    refine lv_aload_n hx hb dX4_init_10 rfl (lv_at hl 0 rfl) ?_
    refine lv_iconst (v := (0 : Int32)) hx hb dX4_init_11 (by decide) ?_
    refine pf_4_1 hx hb hts hin4 hown hK hT hS k0 hfl15 dX4_init_12 (zro (by omega)) (fun H locs hT hS => ?_)
    refine lv_aload_n hx hb dX4_init_15 rfl (lv_at hl 0 rfl) ?_
    refine lv_iconst (v := (0 : Int32)) hx hb dX4_init_16 (by decide) ?_
    refine pf_4_2 hx hb hts hin4 hown hK hT hS k0 hfl19 dX4_init_17 (fun H locs hT hS => ?_)
    exact hret H locs ls 20 G dX4_init_20 ⟨rfl, trivial⟩ hT hS
  exact main s.heap [] hT va_S.rf

abbrev rmX5_init : Room := { frames := 1, cells := 0, slots := 0, locals := 32 }
set_option maxHeartbeats 4000000 in
set_option maxRecDepth 100000 in
theorem c_X5_init (l : Launch) (D : va_G) (cy : Nat → ClassId) (κ : Nat → Nat) (G : Gh) (p0 : Nat) (k0 : κ p0 = 6) : Met l yX5_init wsX5_init rmX5_init (va_Pc [.ref p0] (fun U => WW D cy κ G U)) (va_Qv (fun u : Gh => u = G ∧ (True)) (fun u t => WW D cy κ u t) (AA κ)) 0 0 (AA κ) := by
  refine Met.twv (cc := cX5_init) (maxL := 1) (by decide) rfl (Nat.le_of_ble_eq_true rfl) ?_
  intro p e s m args below meth c Q hx hb hml hown hts hK hT hret ls hl
  have hl : lv_has ls 1 [(0, .ref p0)] := hl
  have hoi1 := hts (.methodLink RX5 3 objectInit) (by decide +kernel)
  have hoi2 := hts (.instanceMethod objectInit) (by decide +kernel)
  have hoi3 := hts (.code objectInit ⟨#[0xb1]⟩ 1 none) (by decide +kernel)
  have hc0 : (0 : Int32).toInt = 0 := rfl
  have hfl9 := hts (.fieldLink RX5 9 "PlyPlates$Layer" "stuffNumber" "I") (by decide +kernel)
  have hin5 : ∀ w ∈ u_ws RX5 TX5 4, w ∈ wsX5_init := by decide +kernel
  have hfl15 := hts (.fieldLink RX5 15 "PlyPlates$Layer" "way" "I") (by decide +kernel)
  have hc1 : (1 : Int32).toInt = 1 := rfl
  have hfl18 := hts (.fieldLink RX5 18 "PlyPlates$Layer" "thick" "I") (by decide +kernel)
  have hfl21 := hts (.fieldLink RX5 21 "PlyPlates$Layer" "broken" "I") (by decide +kernel)
  have main : ∀ (H : Heap) (locs : List Loc), TW D cy κ G H → va_S (AA κ) s.heap H locs → W p l e rmX5_init s m args below meth c H locs 0 0 Q (F0 m 0 ls []) := by
    intro H locs hT hS
    refine lv_aload_n hx hb dX5_init_0 rfl (lv_at hl 0 rfl) ?_
    refine W.objInit hx hb hown hoi1 hoi2 hoi3 rfl (by rw [hml]; exact hl.1) rfl dX5_init_1 (Nat.le_of_ble_eq_true rfl) (Nat.le_of_ble_eq_true rfl) ?_
    refine W.eq (g2 := F0 m 4 ls []) rfl ?_
    refine lv_aload_n hx hb dX5_init_4 rfl (lv_at hl 0 rfl) ?_
    refine lv_iconst (v := (0 : Int32)) hx hb dX5_init_5 (by decide) ?_
    refine pf_5_0 hx hb hts hin5 hown hK hT hS k0 hfl9 dX5_init_6 (by omega) (fun H locs hT hS => ?_)
    refine lv_aload_n hx hb dX5_init_9 rfl (lv_at hl 0 rfl) ?_
    refine lv_iconst (v := (0 : Int32)) hx hb dX5_init_10 (by decide) ?_
    refine pf_5_1 hx hb hts hin5 hown hK hT hS k0 hfl15 dX5_init_11 (fun H locs hT hS => ?_)
    refine lv_aload_n hx hb dX5_init_14 rfl (lv_at hl 0 rfl) ?_
    refine lv_iconst (v := (1 : Int32)) hx hb dX5_init_15 (by decide) ?_
    refine pf_5_2 hx hb hts hin5 hown hK hT hS k0 hfl18 dX5_init_16 (fun H locs hT hS => ?_)
    refine lv_aload_n hx hb dX5_init_19 rfl (lv_at hl 0 rfl) ?_
    refine lv_iconst (v := (0 : Int32)) hx hb dX5_init_20 (by decide) ?_
    refine pf_5_3 hx hb hts hin5 hown hK hT hS k0 hfl21 dX5_init_21 (fun H locs hT hS => ?_)
    exact hret H locs ls 24 G dX5_init_24 ⟨rfl, trivial⟩ hT hS
  exact main s.heap [] hT va_S.rf

abbrev rmX6_init : Room := { frames := 1, cells := 0, slots := 0, locals := 32 }
set_option maxHeartbeats 4000000 in
set_option maxRecDepth 100000 in
theorem c_X6_init (l : Launch) (D : va_G) (cy : Nat → ClassId) (κ : Nat → Nat) (G : Gh) (p0 : Nat) (k0 : κ p0 = 7) : Met l yX6_init wsX6_init rmX6_init (va_Pc [.ref p0] (fun U => WW D cy κ G U)) (va_Qv (fun u : Gh => u = G ∧ (True)) (fun u t => WW D cy κ u t) (AA κ)) 0 0 (AA κ) := by
  refine Met.twv (cc := cX6_init) (maxL := 1) (by decide) rfl (Nat.le_of_ble_eq_true rfl) ?_
  intro p e s m args below meth c Q hx hb hml hown hts hK hT hret ls hl
  have hl : lv_has ls 1 [(0, .ref p0)] := hl
  have hoi1 := hts (.methodLink RX6 3 objectInit) (by decide +kernel)
  have hoi2 := hts (.instanceMethod objectInit) (by decide +kernel)
  have hoi3 := hts (.code objectInit ⟨#[0xb1]⟩ 1 none) (by decide +kernel)
  have hc0 : (0 : Int32).toInt = 0 := rfl
  have hfl9 := hts (.fieldLink RX6 9 "PlyPlates$Left" "q11" "I") (by decide +kernel)
  have hin6 : ∀ w ∈ u_ws RX6 TX6 4, w ∈ wsX6_init := by decide +kernel
  have hfl15 := hts (.fieldLink RX6 15 "PlyPlates$Left" "q22" "I") (by decide +kernel)
  have hfl18 := hts (.fieldLink RX6 18 "PlyPlates$Left" "q12" "I") (by decide +kernel)
  have hfl21 := hts (.fieldLink RX6 21 "PlyPlates$Left" "q66" "I") (by decide +kernel)
  have main : ∀ (H : Heap) (locs : List Loc), TW D cy κ G H → va_S (AA κ) s.heap H locs → W p l e rmX6_init s m args below meth c H locs 0 0 Q (F0 m 0 ls []) := by
    intro H locs hT hS
    refine lv_aload_n hx hb dX6_init_0 rfl (lv_at hl 0 rfl) ?_
    refine W.objInit hx hb hown hoi1 hoi2 hoi3 rfl (by rw [hml]; exact hl.1) rfl dX6_init_1 (Nat.le_of_ble_eq_true rfl) (Nat.le_of_ble_eq_true rfl) ?_
    refine W.eq (g2 := F0 m 4 ls []) rfl ?_
    refine lv_aload_n hx hb dX6_init_4 rfl (lv_at hl 0 rfl) ?_
    refine lv_iconst (v := (0 : Int32)) hx hb dX6_init_5 (by decide) ?_
    refine pf_6_0 hx hb hts hin6 hown hK hT hS k0 hfl9 dX6_init_6 (fun H locs hT hS => ?_)
    refine lv_aload_n hx hb dX6_init_9 rfl (lv_at hl 0 rfl) ?_
    refine lv_iconst (v := (0 : Int32)) hx hb dX6_init_10 (by decide) ?_
    refine pf_6_1 hx hb hts hin6 hown hK hT hS k0 hfl15 dX6_init_11 (fun H locs hT hS => ?_)
    refine lv_aload_n hx hb dX6_init_14 rfl (lv_at hl 0 rfl) ?_
    refine lv_iconst (v := (0 : Int32)) hx hb dX6_init_15 (by decide) ?_
    refine pf_6_2 hx hb hts hin6 hown hK hT hS k0 hfl18 dX6_init_16 (fun H locs hT hS => ?_)
    refine lv_aload_n hx hb dX6_init_19 rfl (lv_at hl 0 rfl) ?_
    refine lv_iconst (v := (0 : Int32)) hx hb dX6_init_20 (by decide) ?_
    refine pf_6_3 hx hb hts hin6 hown hK hT hS k0 hfl21 dX6_init_21 (fun H locs hT hS => ?_)
    exact hret H locs ls 24 G dX6_init_24 ⟨rfl, trivial⟩ hT hS
  exact main s.heap [] hT va_S.rf
