abbrev rmJ7_fill_53178 : Room := { frames := 0, cells := 0, slots := 0, locals := 0 }
set_option maxHeartbeats 4000000 in
set_option maxRecDepth 100000 in
theorem c_J7_fill_53178_1005 (l : Launch) (D : va_G) (cy : Nat → ClassId) (κ : Nat → Nat) (G : Gh) (p0 : Nat) (k0 : κ p0 = 1005) (p1 : Int32) : Met l yJ7_fill_53178 wsJ7_fill_53178 rmJ7_fill_53178 (va_Pc [.ref p0, .int p1] (fun U => WW D cy κ G U)) (va_Qv (fun u : Gh => u = G ∧ (True)) (fun u t => WW D cy κ u t) (AA κ)) 0 0 (AA κ) := by
  refine Met.twv (cc := cJ7_fill_53178) (maxL := 4) (by decide) rfl (Nat.le_of_ble_eq_true rfl) ?_
  intro p e s m args below meth c Q hx hb hml hown hts hK hT hret ls hl
  have hl : lv_has ls 4 [(0, .ref p0), (1, .int p1)] := hl
  have hc0 : (0 : Int32).toInt = 0 := rfl
  have hc1 : (1 : Int32).toInt = 1 := rfl
  have main : ∀ (H : Heap) (locs : List Loc), TW D cy κ G H → va_S (AA κ) s.heap H locs → W p l e rmJ7_fill_53178 s m args below meth c H locs 0 0 Q (F0 m 0 ls []) := by
    intro H locs hT hS
    refine lv_iconst (v := (0 : Int32)) hx hb dJ7_fill_53178_0 (by decide) ?_
    refine lv_istore_n (lv' := [(2, .int (0 : Int32)), (0, .ref p0), (1, .int p1)]) hx hb dJ7_fill_53178_1 rfl hl (by decide) rfl (fun ls hl => ?_)
    refine lv_aload_n hx hb dJ7_fill_53178_2 rfl (lv_at hl 1 rfl) ?_
    refine tw_len (K := 1005) (t := 0) (ty := .int) (n := 5) hx hb hK hT k0 (by decide) rfl rfl rfl dJ7_fill_53178_3 (fun x1 ex1 => ?_)
    have tx1 : x1.toInt = 5 := by rw [ex1]; rfl
    refine lv_istore_n (lv' := [(3, .int x1), (2, .int (0 : Int32)), (0, .ref p0), (1, .int p1)]) hx hb dJ7_fill_53178_4 rfl hl (by decide) rfl (fun ls hl => ?_)
    have L5 : ∀ (nn : Nat) (H : Heap) (locs : List Loc) (ls : Array Slot) (x2 : Int32), (nn = (2147483647 - x2.toInt).toNat) → (TW D cy κ G H) → (va_S (AA κ) s.heap H locs) → (lv_has ls 4 [(3, .int x1), (2, .int x2), (0, .ref p0), (1, .int p1)]) → (0 ≤ x2.toInt ∧ x2.toInt ≤ 5) → W p l e rmJ7_fill_53178 s m args below meth c H locs 0 0 Q (F0 m 5 ls []) := by
      intro nn
      induction nn using Nat.strongRecOn with
      | _ nn ih5 =>
        intro H locs ls x2 hnn hT hS hl fL5_0
        refine lv_iload_n hx hb dJ7_fill_53178_5 rfl (lv_at hl 1 rfl) ?_
        refine lv_iload_n hx hb dJ7_fill_53178_6 rfl (lv_at hl 0 rfl) ?_
        refine tb_icmp_ge (tgt := 20) hx hb dJ7_fill_53178_7 (by decide) (fun c3 => ?_) (fun c3 => ?_)
        · skip
          exact hret H locs ls 20 G dJ7_fill_53178_20 ⟨rfl, trivial⟩ hT hS
        · skip
          refine lv_aload_n hx hb dJ7_fill_53178_10 rfl (lv_at hl 2 rfl) ?_
          refine lv_iload_n hx hb dJ7_fill_53178_11 rfl (lv_at hl 1 rfl) ?_
          refine lv_iload_n hx hb dJ7_fill_53178_12 rfl (lv_at hl 3 rfl) ?_
          refine tw_ias (K := 1005) (n := 5) (P := fun _ => True) hx hb hK hT hS k0 (by decide) rfl rfl (by omega) rfl trivial dJ7_fill_53178_13 (fun H locs hT hS hq => ?_)
          obtain ⟨x4, ex4⟩ : ∃ z : Int32, z = x2 + (1 : Int32) := ⟨_, rfl⟩
          refine lv_iinc (v := x4) (lv' := [(2, .int x4), (3, .int x1), (0, .ref p0), (1, .int p1)]) hx hb dJ7_fill_53178_14 hl (k := 1) rfl (by rw [ex4]; rfl) (by decide) rfl (fun ls hl => ?_)
          have tx4 : x4.toInt = x2.toInt + 1 := by rw [ex4, ti_add (by have := i32b x2; have := i32b x1; have := i32b p1; omega), hc1]
          refine lv_goto (tgt := 5) hx hb dJ7_fill_53178_17 (by decide) ?_
          exact ih5 ((2147483647 - x4.toInt).toNat) (by have := i32b x4; have := i32b x1; have := i32b p1; omega) H locs ls x4 rfl hT hS (lv_sub hl [1, 0, 2, 3] rfl) (by omega)
    exact L5 _ H locs ls (0 : Int32) rfl hT hS (lv_sub hl [0, 1, 2, 3] rfl) (by omega)
  exact main s.heap [] hT va_S.rf

set_option maxHeartbeats 4000000 in
set_option maxRecDepth 100000 in
theorem c_J7_fill_53178_1004 (l : Launch) (D : va_G) (cy : Nat → ClassId) (κ : Nat → Nat) (G : Gh) (p0 : Nat) (k0 : κ p0 = 1004) (p1 : Int32) : Met l yJ7_fill_53178 wsJ7_fill_53178 rmJ7_fill_53178 (va_Pc [.ref p0, .int p1] (fun U => WW D cy κ G U)) (va_Qv (fun u : Gh => u = G ∧ (True)) (fun u t => WW D cy κ u t) (AA κ)) 0 0 (AA κ) := by
  refine Met.twv (cc := cJ7_fill_53178) (maxL := 4) (by decide) rfl (Nat.le_of_ble_eq_true rfl) ?_
  intro p e s m args below meth c Q hx hb hml hown hts hK hT hret ls hl
  have hl : lv_has ls 4 [(0, .ref p0), (1, .int p1)] := hl
  have hc0 : (0 : Int32).toInt = 0 := rfl
  have hc1 : (1 : Int32).toInt = 1 := rfl
  have main : ∀ (H : Heap) (locs : List Loc), TW D cy κ G H → va_S (AA κ) s.heap H locs → W p l e rmJ7_fill_53178 s m args below meth c H locs 0 0 Q (F0 m 0 ls []) := by
    intro H locs hT hS
    refine lv_iconst (v := (0 : Int32)) hx hb dJ7_fill_53178_0 (by decide) ?_
    refine lv_istore_n (lv' := [(2, .int (0 : Int32)), (0, .ref p0), (1, .int p1)]) hx hb dJ7_fill_53178_1 rfl hl (by decide) rfl (fun ls hl => ?_)
    refine lv_aload_n hx hb dJ7_fill_53178_2 rfl (lv_at hl 1 rfl) ?_
    refine tw_len (K := 1004) (t := 0) (ty := .int) (n := 4) hx hb hK hT k0 (by decide) rfl rfl rfl dJ7_fill_53178_3 (fun x1 ex1 => ?_)
    have tx1 : x1.toInt = 4 := by rw [ex1]; rfl
    refine lv_istore_n (lv' := [(3, .int x1), (2, .int (0 : Int32)), (0, .ref p0), (1, .int p1)]) hx hb dJ7_fill_53178_4 rfl hl (by decide) rfl (fun ls hl => ?_)
    have L5 : ∀ (nn : Nat) (H : Heap) (locs : List Loc) (ls : Array Slot) (x2 : Int32), (nn = (2147483647 - x2.toInt).toNat) → (TW D cy κ G H) → (va_S (AA κ) s.heap H locs) → (lv_has ls 4 [(3, .int x1), (2, .int x2), (0, .ref p0), (1, .int p1)]) → (0 ≤ x2.toInt ∧ x2.toInt ≤ 4) → W p l e rmJ7_fill_53178 s m args below meth c H locs 0 0 Q (F0 m 5 ls []) := by
      intro nn
      induction nn using Nat.strongRecOn with
      | _ nn ih5 =>
        intro H locs ls x2 hnn hT hS hl fL5_0
        refine lv_iload_n hx hb dJ7_fill_53178_5 rfl (lv_at hl 1 rfl) ?_
        refine lv_iload_n hx hb dJ7_fill_53178_6 rfl (lv_at hl 0 rfl) ?_
        refine tb_icmp_ge (tgt := 20) hx hb dJ7_fill_53178_7 (by decide) (fun c3 => ?_) (fun c3 => ?_)
        · skip
          exact hret H locs ls 20 G dJ7_fill_53178_20 ⟨rfl, trivial⟩ hT hS
        · skip
          refine lv_aload_n hx hb dJ7_fill_53178_10 rfl (lv_at hl 2 rfl) ?_
          refine lv_iload_n hx hb dJ7_fill_53178_11 rfl (lv_at hl 1 rfl) ?_
          refine lv_iload_n hx hb dJ7_fill_53178_12 rfl (lv_at hl 3 rfl) ?_
          refine tw_ias (K := 1004) (n := 4) (P := fun _ => True) hx hb hK hT hS k0 (by decide) rfl rfl (by omega) rfl trivial dJ7_fill_53178_13 (fun H locs hT hS hq => ?_)
          obtain ⟨x4, ex4⟩ : ∃ z : Int32, z = x2 + (1 : Int32) := ⟨_, rfl⟩
          refine lv_iinc (v := x4) (lv' := [(2, .int x4), (3, .int x1), (0, .ref p0), (1, .int p1)]) hx hb dJ7_fill_53178_14 hl (k := 1) rfl (by rw [ex4]; rfl) (by decide) rfl (fun ls hl => ?_)
          have tx4 : x4.toInt = x2.toInt + 1 := by rw [ex4, ti_add (by have := i32b x2; have := i32b x1; have := i32b p1; omega), hc1]
          refine lv_goto (tgt := 5) hx hb dJ7_fill_53178_17 (by decide) ?_
          exact ih5 ((2147483647 - x4.toInt).toNat) (by have := i32b x4; have := i32b x1; have := i32b p1; omega) H locs ls x4 rfl hT hS (lv_sub hl [1, 0, 2, 3] rfl) (by omega)
    exact L5 _ H locs ls (0 : Int32) rfl hT hS (lv_sub hl [0, 1, 2, 3] rfl) (by omega)
  exact main s.heap [] hT va_S.rf

set_option maxHeartbeats 4000000 in
set_option maxRecDepth 100000 in
theorem c_J7_fill_53178_1216 (l : Launch) (D : va_G) (cy : Nat → ClassId) (κ : Nat → Nat) (G : Gh) (p0 : Nat) (k0 : κ p0 = 1216) (p1 : Int32) : Met l yJ7_fill_53178 wsJ7_fill_53178 rmJ7_fill_53178 (va_Pc [.ref p0, .int p1] (fun U => WW D cy κ G U)) (va_Qv (fun u : Gh => u = G ∧ (True)) (fun u t => WW D cy κ u t) (AA κ)) 0 0 (AA κ) := by
  refine Met.twv (cc := cJ7_fill_53178) (maxL := 4) (by decide) rfl (Nat.le_of_ble_eq_true rfl) ?_
  intro p e s m args below meth c Q hx hb hml hown hts hK hT hret ls hl
  have hl : lv_has ls 4 [(0, .ref p0), (1, .int p1)] := hl
  have hc0 : (0 : Int32).toInt = 0 := rfl
  have hc1 : (1 : Int32).toInt = 1 := rfl
  have main : ∀ (H : Heap) (locs : List Loc), TW D cy κ G H → va_S (AA κ) s.heap H locs → W p l e rmJ7_fill_53178 s m args below meth c H locs 0 0 Q (F0 m 0 ls []) := by
    intro H locs hT hS
    refine lv_iconst (v := (0 : Int32)) hx hb dJ7_fill_53178_0 (by decide) ?_
    refine lv_istore_n (lv' := [(2, .int (0 : Int32)), (0, .ref p0), (1, .int p1)]) hx hb dJ7_fill_53178_1 rfl hl (by decide) rfl (fun ls hl => ?_)
    refine lv_aload_n hx hb dJ7_fill_53178_2 rfl (lv_at hl 1 rfl) ?_
    refine tw_len (K := 1216) (t := 0) (ty := .int) (n := 216) hx hb hK hT k0 (by decide) rfl rfl rfl dJ7_fill_53178_3 (fun x1 ex1 => ?_)
    have tx1 : x1.toInt = 216 := by rw [ex1]; rfl
    refine lv_istore_n (lv' := [(3, .int x1), (2, .int (0 : Int32)), (0, .ref p0), (1, .int p1)]) hx hb dJ7_fill_53178_4 rfl hl (by decide) rfl (fun ls hl => ?_)
    have L5 : ∀ (nn : Nat) (H : Heap) (locs : List Loc) (ls : Array Slot) (x2 : Int32), (nn = (2147483647 - x2.toInt).toNat) → (TW D cy κ G H) → (va_S (AA κ) s.heap H locs) → (lv_has ls 4 [(3, .int x1), (2, .int x2), (0, .ref p0), (1, .int p1)]) → (0 ≤ x2.toInt ∧ x2.toInt ≤ 216) → W p l e rmJ7_fill_53178 s m args below meth c H locs 0 0 Q (F0 m 5 ls []) := by
      intro nn
      induction nn using Nat.strongRecOn with
      | _ nn ih5 =>
        intro H locs ls x2 hnn hT hS hl fL5_0
        refine lv_iload_n hx hb dJ7_fill_53178_5 rfl (lv_at hl 1 rfl) ?_
        refine lv_iload_n hx hb dJ7_fill_53178_6 rfl (lv_at hl 0 rfl) ?_
        refine tb_icmp_ge (tgt := 20) hx hb dJ7_fill_53178_7 (by decide) (fun c3 => ?_) (fun c3 => ?_)
        · skip
          exact hret H locs ls 20 G dJ7_fill_53178_20 ⟨rfl, trivial⟩ hT hS
        · skip
          refine lv_aload_n hx hb dJ7_fill_53178_10 rfl (lv_at hl 2 rfl) ?_
          refine lv_iload_n hx hb dJ7_fill_53178_11 rfl (lv_at hl 1 rfl) ?_
          refine lv_iload_n hx hb dJ7_fill_53178_12 rfl (lv_at hl 3 rfl) ?_
          refine tw_ias (K := 1216) (n := 216) (P := fun _ => True) hx hb hK hT hS k0 (by decide) rfl rfl (by omega) rfl trivial dJ7_fill_53178_13 (fun H locs hT hS hq => ?_)
          obtain ⟨x4, ex4⟩ : ∃ z : Int32, z = x2 + (1 : Int32) := ⟨_, rfl⟩
          refine lv_iinc (v := x4) (lv' := [(2, .int x4), (3, .int x1), (0, .ref p0), (1, .int p1)]) hx hb dJ7_fill_53178_14 hl (k := 1) rfl (by rw [ex4]; rfl) (by decide) rfl (fun ls hl => ?_)
          have tx4 : x4.toInt = x2.toInt + 1 := by rw [ex4, ti_add (by have := i32b x2; have := i32b x1; have := i32b p1; omega), hc1]
          refine lv_goto (tgt := 5) hx hb dJ7_fill_53178_17 (by decide) ?_
          exact ih5 ((2147483647 - x4.toInt).toNat) (by have := i32b x4; have := i32b x1; have := i32b p1; omega) H locs ls x4 rfl hT hS (lv_sub hl [1, 0, 2, 3] rfl) (by omega)
    exact L5 _ H locs ls (0 : Int32) rfl hT hS (lv_sub hl [0, 1, 2, 3] rfl) (by omega)
  exact main s.heap [] hT va_S.rf

abbrev rmJ7_fill_d0a16 : Room := { frames := 0, cells := 0, slots := 0, locals := 0 }
set_option maxHeartbeats 4000000 in
set_option maxRecDepth 100000 in
theorem c_J7_fill_d0a16_2006 (l : Launch) (D : va_G) (cy : Nat → ClassId) (κ : Nat → Nat) (G : Gh) (p0 : Nat) (k0 : κ p0 = 2006) (p1 : Int64) : Met l yJ7_fill_d0a16 wsJ7_fill_d0a16 rmJ7_fill_d0a16 (va_Pc [.ref p0, .long p1] (fun U => WW D cy κ G U)) (va_Qv (fun u : Gh => u = G ∧ (True)) (fun u t => WW D cy κ u t) (AA κ)) 0 0 (AA κ) := by
  refine Met.twv (cc := cJ7_fill_d0a16) (maxL := 5) (by decide) rfl (Nat.le_of_ble_eq_true rfl) ?_
  intro p e s m args below meth c Q hx hb hml hown hts hK hT hret ls hl
  have hl : lv_has ls 5 [(0, .ref p0), (1, .long p1)] := hl
  have hc0 : (0 : Int32).toInt = 0 := rfl
  have hc1 : (1 : Int32).toInt = 1 := rfl
  have main : ∀ (H : Heap) (locs : List Loc), TW D cy κ G H → va_S (AA κ) s.heap H locs → W p l e rmJ7_fill_d0a16 s m args below meth c H locs 0 0 Q (F0 m 0 ls []) := by
    intro H locs hT hS
    refine lv_iconst (v := (0 : Int32)) hx hb dJ7_fill_d0a16_0 (by decide) ?_
    refine lv_istore_n (lv' := [(3, .int (0 : Int32)), (0, .ref p0), (1, .long p1)]) hx hb dJ7_fill_d0a16_1 rfl hl (by decide) rfl (fun ls hl => ?_)
    refine lv_aload_n hx hb dJ7_fill_d0a16_2 rfl (lv_at hl 1 rfl) ?_
    refine tw_len (K := 2006) (t := 1) (ty := .long) (n := 6) hx hb hK hT k0 (by decide) rfl rfl rfl dJ7_fill_d0a16_3 (fun x1 ex1 => ?_)
    have tx1 : x1.toInt = 6 := by rw [ex1]; rfl
    refine lv_istore (lv' := [(4, .int x1), (3, .int (0 : Int32)), (0, .ref p0), (1, .long p1)]) hx hb dJ7_fill_d0a16_4 hl (by decide) rfl (fun ls hl => ?_)
    have L6 : ∀ (nn : Nat) (H : Heap) (locs : List Loc) (ls : Array Slot) (x2 : Int32), (nn = (2147483647 - x2.toInt).toNat) → (TW D cy κ G H) → (va_S (AA κ) s.heap H locs) → (lv_has ls 5 [(4, .int x1), (3, .int x2), (0, .ref p0), (1, .long p1)]) → (0 ≤ x2.toInt ∧ x2.toInt ≤ 6) → W p l e rmJ7_fill_d0a16 s m args below meth c H locs 0 0 Q (F0 m 6 ls []) := by
      intro nn
      induction nn using Nat.strongRecOn with
      | _ nn ih6 =>
        intro H locs ls x2 hnn hT hS hl fL6_0
        refine lv_iload_n hx hb dJ7_fill_d0a16_6 rfl (lv_at hl 1 rfl) ?_
        refine lv_iload hx hb dJ7_fill_d0a16_7 (lv_at hl 0 rfl) ?_
        refine tb_icmp_ge (tgt := 22) hx hb dJ7_fill_d0a16_9 (by decide) (fun c3 => ?_) (fun c3 => ?_)
        · skip
          exact hret H locs ls 22 G dJ7_fill_d0a16_22 ⟨rfl, trivial⟩ hT hS
        · skip
          refine lv_aload_n hx hb dJ7_fill_d0a16_12 rfl (lv_at hl 2 rfl) ?_
          refine lv_iload_n hx hb dJ7_fill_d0a16_13 rfl (lv_at hl 1 rfl) ?_
          refine lv_lload_n hx hb dJ7_fill_d0a16_14 rfl (lv_at hl 3 rfl) ?_
          refine tw_las (K := 2006) (n := 6) (P := fun _ => True) hx hb hK hT hS k0 (by decide) rfl rfl (by omega) rfl trivial dJ7_fill_d0a16_15 (fun H locs hT hS hq => ?_)
          obtain ⟨x4, ex4⟩ : ∃ z : Int32, z = x2 + (1 : Int32) := ⟨_, rfl⟩
          refine lv_iinc (v := x4) (lv' := [(3, .int x4), (4, .int x1), (0, .ref p0), (1, .long p1)]) hx hb dJ7_fill_d0a16_16 hl (k := 1) rfl (by rw [ex4]; rfl) (by decide) rfl (fun ls hl => ?_)
          have tx4 : x4.toInt = x2.toInt + 1 := by rw [ex4, ti_add (by have := i32b x2; have := i32b x1; omega), hc1]
          refine lv_goto (tgt := 6) hx hb dJ7_fill_d0a16_19 (by decide) ?_
          exact ih6 ((2147483647 - x4.toInt).toNat) (by have := i32b x4; have := i32b x1; omega) H locs ls x4 rfl hT hS (lv_sub hl [1, 0, 2, 3] rfl) (by omega)
    exact L6 _ H locs ls (0 : Int32) rfl hT hS (lv_sub hl [0, 1, 2, 3] rfl) (by omega)
  exact main s.heap [] hT va_S.rf

abbrev rmX10_isWithin : Room := { frames := 0, cells := 0, slots := 0, locals := 0 }
set_option maxHeartbeats 4000000 in
set_option maxRecDepth 100000 in
theorem c_X10_isWithin (l : Launch) (D : va_G) (cy : Nat → ClassId) (κ : Nat → Nat) (G : Gh) (p0 : Int32) (p1 : Int32) (p2 : Int32) : Met l yX10_isWithin wsX10_isWithin rmX10_isWithin (va_Pc [.int p0, .int p1, .int p2] (fun U => WW D cy κ G U)) (va_Qi (fun (r : Int32) (u : Gh) => u = G ∧ ((r.toInt = 1 ∧ p1.toInt ≤ p0.toInt ∧ p0.toInt ≤ p2.toInt) ∨ (r.toInt = 0 ∧ (p0.toInt < p1.toInt ∨ p2.toInt < p0.toInt)))) (fun u t => WW D cy κ u t) (AA κ)) 0 0 (AA κ) := by
  refine Met.twz (cc := cX10_isWithin) (maxL := 3) (by decide) rfl (Nat.le_of_ble_eq_true rfl) ?_
  intro p e s m args below meth c Q hx hb hml hown hts hK hT hret ls hl
  have hl : lv_has ls 3 [(0, .int p0), (1, .int p1), (2, .int p2)] := hl
  have hc0 : (0 : Int32).toInt = 0 := rfl
  have hc1 : (1 : Int32).toInt = 1 := rfl
  have main : ∀ (H : Heap) (locs : List Loc), TW D cy κ G H → va_S (AA κ) s.heap H locs → W p l e rmX10_isWithin s m args below meth c H locs 0 0 Q (F0 m 0 ls []) := by
    intro H locs hT hS
    refine lv_iload_n hx hb dX10_isWithin_0 rfl (lv_at hl 0 rfl) ?_
    refine lv_iload_n hx hb dX10_isWithin_1 rfl (lv_at hl 1 rfl) ?_
    refine tb_icmp_lt (tgt := 14) hx hb dX10_isWithin_2 (by decide) (fun c1 => ?_) (fun c1 => ?_)
    · skip
      refine lv_iconst (v := (0 : Int32)) hx hb dX10_isWithin_14 (by decide) ?_
      exact hret H locs ls 15 (0 : Int32) G dX10_isWithin_15 (by omega) ⟨rfl, by omega⟩ hT hS
    · skip
      refine lv_iload_n hx hb dX10_isWithin_5 rfl (lv_at hl 0 rfl) ?_
      refine lv_iload_n hx hb dX10_isWithin_6 rfl (lv_at hl 2 rfl) ?_
      refine tb_icmp_gt (tgt := 14) hx hb dX10_isWithin_7 (by decide) (fun c2 => ?_) (fun c2 => ?_)
      · skip
        refine lv_iconst (v := (0 : Int32)) hx hb dX10_isWithin_14 (by decide) ?_
        exact hret H locs ls 15 (0 : Int32) G dX10_isWithin_15 (by omega) ⟨rfl, by omega⟩ hT hS
      · skip
        refine lv_iconst (v := (1 : Int32)) hx hb dX10_isWithin_10 (by decide) ?_
        refine lv_goto (tgt := 15) hx hb dX10_isWithin_11 (by decide) ?_
        exact hret H locs ls 15 (1 : Int32) G dX10_isWithin_15 (by omega) ⟨rfl, by omega⟩ hT hS
  exact main s.heap [] hT va_S.rf

abbrev rmX3_commonDivisor : Room := { frames := 0, cells := 0, slots := 0, locals := 0 }
set_option maxHeartbeats 4000000 in
set_option maxRecDepth 100000 in
theorem c_X3_commonDivisor (l : Launch) (D : va_G) (cy : Nat → ClassId) (κ : Nat → Nat) (G : Gh) (p0 : Int64) (p1 : Int64) : Met l yX3_commonDivisor wsX3_commonDivisor rmX3_commonDivisor (va_Pc [.long p0, .long p1] (fun U => WW D cy κ G U)) (va_Ql (fun (r : Int64) (u : Gh) => u = G ∧ (True)) (fun u t => WW D cy κ u t) (AA κ)) 0 0 (AA κ) := by
  refine Met.twl (cc := cX3_commonDivisor) (maxL := 7) (by decide) rfl (Nat.le_of_ble_eq_true rfl) ?_
  intro p e s m args below meth c Q hx hb hml hown hts hK hT hret ls hl
  have hl : lv_has ls 7 [(0, .long p0), (2, .long p1)] := hl
  have hc0 : (0 : Int32).toInt = 0 := rfl
  have hc200 : (200 : Int32).toInt = 200 := rfl
  have hlc0 : (0 : Int64).toInt = 0 := rfl
  have hc1 : (1 : Int32).toInt = 1 := rfl
  have main : ∀ (H : Heap) (locs : List Loc), TW D cy κ G H → va_S (AA κ) s.heap H locs → W p l e rmX3_commonDivisor s m args below meth c H locs 0 0 Q (F0 m 0 ls []) := by
    intro H locs hT hS
    refine lv_iconst (v := (0 : Int32)) hx hb dX3_commonDivisor_0 (by decide) ?_
    refine lv_istore (lv' := [(4, .int (0 : Int32)), (0, .long p0), (2, .long p1)]) hx hb dX3_commonDivisor_1 hl (by decide) rfl (fun ls hl => ?_)
    have L3 : ∀ (nn : Nat) (H : Heap) (locs : List Loc) (ls : Array Slot) (x1 : Int32) (y2 : Int64) (y3 : Int64), (nn = (2147483647 - x1.toInt).toNat) → (TW D cy κ G H) → (va_S (AA κ) s.heap H locs) → (lv_has ls 7 [(4, .int x1), (0, .long y2), (2, .long y3)]) → (0 ≤ x1.toInt ∧ x1.toInt ≤ 200) → W p l e rmX3_commonDivisor s m args below meth c H locs 0 0 Q (F0 m 3 ls []) := by
      intro nn
      induction nn using Nat.strongRecOn with
      | _ nn ih3 =>
        intro H locs ls x1 y2 y3 hnn hT hS hl fL3_0
        refine lv_iload hx hb dX3_commonDivisor_3 (lv_at hl 0 rfl) ?_
        refine lv_sipush (v := (200 : Int32)) hx hb dX3_commonDivisor_5 (by decide) ?_
        refine tb_icmp_ge (tgt := 33) hx hb dX3_commonDivisor_8 (by decide) (fun c4 => ?_) (fun c4 => ?_)
        · skip
          refine lv_lload_n hx hb dX3_commonDivisor_33 rfl (lv_at hl 1 rfl) ?_
          exact hret H locs ls 34 y2 G dX3_commonDivisor_34 ⟨rfl, trivial⟩ hT hS
        · skip
          refine lv_lload_n hx hb dX3_commonDivisor_11 rfl (lv_at hl 2 rfl) ?_
          refine lv_lconst (v := 0) hx hb dX3_commonDivisor_12 (by decide) ?_
          refine tb_lcmp2 hx hb dX3_commonDivisor_13 (fun x5 tx5 ux5 => ?_)
          refine tb_if_eq (tgt := 33) hx hb dX3_commonDivisor_14 (by decide) (fun c6 => ?_) (fun c6 => ?_)
          · skip
            refine lv_lload_n hx hb dX3_commonDivisor_33 rfl (lv_at hl 1 rfl) ?_
            exact hret H locs ls 34 y2 G dX3_commonDivisor_34 ⟨rfl, trivial⟩ hT hS
          · skip
            refine lv_lload_n hx hb dX3_commonDivisor_17 rfl (lv_at hl 1 rfl) ?_
            refine lv_lload_n hx hb dX3_commonDivisor_18 rfl (lv_at hl 2 rfl) ?_
            refine lv_lrem hx hb dX3_commonDivisor_19 (ne64 (by omega)) ?_
            refine lv_topl (fun y7 ey7 => ?_)
            rw [lrem_eq] at ey7
            have ty7 : y7.toInt = (y2 % y3).toInt := by rw [ey7]
            have ny7 := rem64 ey7 (by omega)
            refine lv_lstore (lv' := [(5, .long y7), (4, .int x1), (0, .long y2), (2, .long y3)]) hx hb dX3_commonDivisor_20 hl (by decide) rfl (fun ls hl => ?_)
            refine lv_lload_n hx hb dX3_commonDivisor_22 rfl (lv_at hl 3 rfl) ?_
            refine lv_lstore_n (lv' := [(0, .long y3), (5, .long y7), (4, .int x1), (2, .long y3)]) hx hb dX3_commonDivisor_23 rfl hl (by decide) rfl (fun ls hl => ?_)
            refine lv_lload hx hb dX3_commonDivisor_24 (lv_at hl 1 rfl) ?_
            refine lv_lstore_n (lv' := [(2, .long y7), (0, .long y3), (5, .long y7), (4, .int x1)]) hx hb dX3_commonDivisor_26 rfl hl (by decide) rfl (fun ls hl => ?_)
            obtain ⟨x8, ex8⟩ : ∃ z : Int32, z = x1 + (1 : Int32) := ⟨_, rfl⟩
            refine lv_iinc (v := x8) (lv' := [(4, .int x8), (2, .long y7), (0, .long y3), (5, .long y7)]) hx hb dX3_commonDivisor_27 hl (k := 3) rfl (by rw [ex8]; rfl) (by decide) rfl (fun ls hl => ?_)
            have tx8 : x8.toInt = x1.toInt + 1 := by rw [ex8, ti_add (by have := i32b x1; omega), hc1]
            refine lv_goto (tgt := 3) hx hb dX3_commonDivisor_30 (by decide) ?_
            exact ih3 ((2147483647 - x8.toInt).toNat) (by have := i32b x8; omega) H locs ls x8 y3 y7 rfl hT hS (lv_sub hl [0, 2, 1] rfl) (by omega)
    exact L3 _ H locs ls (0 : Int32) p0 p1 rfl hT hS (lv_sub hl [0, 1, 2] rfl) (by omega)
  exact main s.heap [] hT va_S.rf

abbrev rmX3_partOf : Room := { frames := 0, cells := 0, slots := 0, locals := 0 }
set_option maxHeartbeats 4000000 in
set_option maxRecDepth 100000 in
theorem c_X3_partOf (l : Launch) (D : va_G) (cy : Nat → ClassId) (κ : Nat → Nat) (G : Gh) (p0 : Nat) (k0 : κ p0 = 4) (p1 : Int32) : Met l yX3_partOf wsX3_partOf rmX3_partOf (va_Pc [.ref p0, .int p1] (fun U => WW D cy κ G U)) (va_Ql (fun (r : Int64) (u : Gh) => u = G ∧ (True)) (fun u t => WW D cy κ u t) (AA κ)) 0 0 (AA κ) := by
  refine Met.twl (cc := cX3_partOf) (maxL := 2) (by decide) rfl (Nat.le_of_ble_eq_true rfl) ?_
  intro p e s m args below meth c Q hx hb hml hown hts hK hT hret ls hl
  have hl : lv_has ls 2 [(0, .ref p0), (1, .int p1)] := hl
  have hc1 : (1 : Int32).toInt = 1 := rfl
  have hkl28 := hts (.constantLong RX3 28 (-9223372036854775808)) (by decide +kernel)
  have hlk28 : (-9223372036854775808 : Int64).toInt = -9223372036854775808 := rfl
  have hfl15 := hts (.fieldLink RX3 15 "PlyPlates$Fraction" "below" "J") (by decide +kernel)
  have hin3 : ∀ w ∈ u_ws RX3 TX3 2, w ∈ wsX3_partOf := by decide +kernel
  have hfl9 := hts (.fieldLink RX3 9 "PlyPlates$Fraction" "above" "J") (by decide +kernel)
  have main : ∀ (H : Heap) (locs : List Loc), TW D cy κ G H → va_S (AA κ) s.heap H locs → W p l e rmX3_partOf s m args below meth c H locs 0 0 Q (F0 m 0 ls []) := by
    intro H locs hT hS
    refine lv_iload_n hx hb dX3_partOf_0 rfl (lv_at hl 1 rfl) ?_
    refine tb_if_ne (tgt := 9) hx hb dX3_partOf_1 (by decide) (fun c1 => ?_) (fun c1 => ?_)
    · skip
      refine lv_iload_n hx hb dX3_partOf_9 rfl (lv_at hl 1 rfl) ?_
      refine lv_iconst (v := (1 : Int32)) hx hb dX3_partOf_10 (by decide) ?_
      refine tb_icmp_ne (tgt := 21) hx hb dX3_partOf_11 (by decide) (fun c2 => ?_) (fun c2 => ?_)
      · skip
        refine lv_ldc2 hx hb hown hkl28 dX3_partOf_21 ?_
        exact hret H locs ls 24 (-9223372036854775808 : Int64) G dX3_partOf_24 ⟨rfl, trivial⟩ hT hS
      · skip
        refine lv_aload_n hx hb dX3_partOf_14 rfl (lv_at hl 0 rfl) ?_
        refine gf_3_1 hx hb hts hin3 hown hK hT k0 hfl15 dX3_partOf_15 (fun y3 ky3 fvy3 => ?_)
        refine lv_goto (tgt := 24) hx hb dX3_partOf_18 (by decide) ?_
        exact hret H locs ls 24 y3 G dX3_partOf_24 ⟨rfl, trivial⟩ hT hS
    · skip
      refine lv_aload_n hx hb dX3_partOf_4 rfl (lv_at hl 0 rfl) ?_
      refine gf_3_0 hx hb hts hin3 hown hK hT k0 hfl9 dX3_partOf_5 (fun y4 ky4 fvy4 => ?_)
      exact hret H locs ls 8 y4 G dX3_partOf_8 ⟨rfl, trivial⟩ hT hS
  exact main s.heap [] hT va_S.rf

abbrev rmX3_become : Room := { frames := 1, cells := 0, slots := 0, locals := 32 }
set_option maxHeartbeats 4000000 in
set_option maxRecDepth 100000 in
theorem c_X3_become (l : Launch) (D : va_G) (cy : Nat → ClassId) (κ : Nat → Nat) (G : Gh) (p0 : Nat) (k0 : κ p0 = 4) (p1 : Int64) (p2 : Int64) : Met l yX3_become wsX3_become rmX3_become (va_Pc [.ref p0, .long p1, .long p2] (fun U => WW D cy κ G U)) (va_Qv (fun u : Gh => u = G ∧ (True)) (fun u t => WW D cy κ u t) (AA κ)) 0 0 (AA κ) := by
  refine Met.twv (cc := cX3_become) (maxL := 9) (by decide) rfl (Nat.le_of_ble_eq_true rfl) ?_
  intro p e s m args below meth c Q hx hb hml hown hts hK hT hret ls hl
  have hl : lv_has ls 9 [(0, .ref p0), (1, .long p1), (3, .long p2)] := hl
  have hml18 := hts (.methodLink RX3 18 Lib.MathLoose.abs_long.x) (by decide +kernel)
  have hmst := hts (.static Lib.MathLoose.abs_long.x) (by decide +kernel)
  have hmin := hts (.initialized "java/lang/Math") (by decide +kernel)
  have hmco := hts (.code Lib.MathLoose.abs_long.x Lib.MathLoose.abs_long.code 2 (some .long)) (by decide +kernel)
  have hlc0 : (0 : Int64).toInt = 0 := rfl
  have hfl9 := hts (.fieldLink RX3 9 "PlyPlates$Fraction" "above" "J") (by decide +kernel)
  have hin3 : ∀ w ∈ u_ws RX3 TX3 2, w ∈ wsX3_become := by decide +kernel
  have hfl15 := hts (.fieldLink RX3 15 "PlyPlates$Fraction" "below" "J") (by decide +kernel)
  have main : ∀ (H : Heap) (locs : List Loc), TW D cy κ G H → va_S (AA κ) s.heap H locs → W p l e rmX3_become s m args below meth c H locs 0 0 Q (F0 m 0 ls []) := by
    intro H locs hT hS
    refine lv_lload_n hx hb dX3_become_0 rfl (lv_at hl 1 rfl) ?_
    refine va_mabs_long hx hb (hml.trans hl.1.symm) hown hml18 hmst hmin hmco (Nat.le_of_ble_eq_true rfl) (Nat.le_of_ble_eq_true rfl) (Nat.zero_le _) (Nat.zero_le _) dX3_become_1 ?_
    refine lv_topl (fun y1 _ => ?_)
    refine lv_lload_n hx hb dX3_become_4 rfl (lv_at hl 2 rfl) ?_
    refine va_mabs_long hx hb (hml.trans hl.1.symm) hown hml18 hmst hmin hmco (Nat.le_of_ble_eq_true rfl) (Nat.le_of_ble_eq_true rfl) (Nat.zero_le _) (Nat.zero_le _) dX3_become_5 ?_
    refine lv_topl (fun y2 _ => ?_)
    refine tw_Sl (As := [.long y1, .long y2]) (rest := []) ⟨hx, hb, hml, hown, hts⟩ (c_X3_commonDivisor l D cy κ G y1 y2) (va_cwS 2 hts gX3_become_X3_commonDivisor rfl rfl rfl (by decide +kernel) ⟨Nat.le_of_ble_eq_true rfl, Nat.le_of_ble_eq_true rfl⟩) hK hT hS rfl hl.1 rfl (Nat.le_of_ble_eq_true rfl) dX3_become_8 ⟨Nat.zero_le _, Nat.zero_le _⟩ (fun y3 u4 H locs hpu4 hT hS => ?_)
    obtain ⟨huu4, qu4⟩ := hpu4
    rw [huu4] at hT
    refine lv_lstore (lv' := [(5, .long y3), (0, .ref p0), (1, .long p1), (3, .long p2)]) hx hb dX3_become_11 hl (by decide) rfl (fun ls hl => ?_)
    refine lv_lload hx hb dX3_become_13 (lv_at hl 0 rfl) ?_
    refine lv_lconst (v := 0) hx hb dX3_become_15 (by decide) ?_
    refine tb_lcmp2 hx hb dX3_become_16 (fun x5 tx5 ux5 => ?_)
    refine tb_if_ne (tgt := 21) hx hb dX3_become_17 (by decide) (fun c6 => ?_) (fun c6 => ?_)
    · skip
      refine lv_lload_n hx hb dX3_become_21 rfl (lv_at hl 3 rfl) ?_
      refine lv_lconst (v := 0) hx hb dX3_become_22 (by decide) ?_
      refine tb_lcmp2 hx hb dX3_become_23 (fun x7 tx7 ux7 => ?_)
      have J35 : ∀ (H : Heap) (locs : List Loc) (ls : Array Slot) (y8 : Int64), (TW D cy κ G H) → (va_S (AA κ) s.heap H locs) → (lv_has ls 9 [(5, .long y3), (0, .ref p0), (1, .long p1), (3, .long p2)]) → (y8.toInt ≠ 0) → W p l e rmX3_become s m args below meth c H locs 0 0 Q (F0 m 35 ls [.long y8]) := by
        intro H locs ls y8 hT hS hl fJ35_0
        refine lv_lstore (lv' := [(7, .long y8), (5, .long y3), (0, .ref p0), (1, .long p1), (3, .long p2)]) hx hb dX3_become_35 hl (by decide) rfl (fun ls hl => ?_)
        refine lv_aload_n hx hb dX3_become_37 rfl (lv_at hl 2 rfl) ?_
        refine lv_lload_n hx hb dX3_become_38 rfl (lv_at hl 3 rfl) ?_
        refine lv_lload hx hb dX3_become_39 (lv_at hl 0 rfl) ?_
        refine lv_ldiv hx hb dX3_become_41 (ne64 (by omega)) ?_
        refine lv_topl (fun y9 ey9 => ?_)
        have ty9 : y9.toInt = (p1 / y8).toInt := by rw [ey9]
        refine pf_3_0 hx hb hts hin3 hown hK hT hS k0 hfl9 dX3_become_42 (fun H locs hT hS => ?_)
        refine lv_aload_n hx hb dX3_become_45 rfl (lv_at hl 2 rfl) ?_
        refine lv_lload_n hx hb dX3_become_46 rfl (lv_at hl 4 rfl) ?_
        refine lv_lload hx hb dX3_become_47 (lv_at hl 0 rfl) ?_
        refine lv_ldiv hx hb dX3_become_49 (ne64 (by omega)) ?_
        refine lv_topl (fun y10 ey10 => ?_)
        have ty10 : y10.toInt = (p2 / y8).toInt := by rw [ey10]
        refine pf_3_1 hx hb hts hin3 hown hK hT hS k0 hfl15 dX3_become_50 (fun H locs hT hS => ?_)
        exact hret H locs ls 53 G dX3_become_53 ⟨rfl, trivial⟩ hT hS
      refine tb_if_ge (tgt := 33) hx hb dX3_become_24 (by decide) (fun c11 => ?_) (fun c11 => ?_)
      · skip
        refine lv_lload hx hb dX3_become_33 (lv_at hl 0 rfl) ?_
        exact J35 H locs ls y3 hT hS (lv_sub hl [0, 1, 2, 3] rfl) (by omega)
      · skip
        refine lv_lload hx hb dX3_become_27 (lv_at hl 0 rfl) ?_
        refine lv_lneg hx hb dX3_become_29 ?_
        refine lv_topl (fun y12 ey12 => ?_)
        have ty12 : y12.toInt = 0 ↔ y3.toInt = 0 := by rw [ey12]; exact neg64 y3
        refine lv_goto (tgt := 35) hx hb dX3_become_30 (by decide) ?_
        exact J35 H locs ls y12 hT hS (lv_sub hl [0, 1, 2, 3] rfl) (by omega)
    · skip
      exact hret H locs ls 20 G dX3_become_20 ⟨rfl, trivial⟩ hT hS
  exact main s.heap [] hT va_S.rf

abbrev rmX3_isGreater : Room := { frames := 0, cells := 0, slots := 0, locals := 0 }
set_option maxHeartbeats 4000000 in
set_option maxRecDepth 100000 in
theorem c_X3_isGreater (l : Launch) (D : va_G) (cy : Nat → ClassId) (κ : Nat → Nat) (G : Gh) (p0 : Int64) (p1 : Int64) (p2 : Int64) (p3 : Int64) : Met l yX3_isGreater wsX3_isGreater rmX3_isGreater (va_Pc [.long p0, .long p1, .long p2, .long p3] (fun U => WW D cy κ G U)) (va_Qi (fun (r : Int32) (u : Gh) => u = G ∧ (0 ≤ r.toInt ∧ r.toInt ≤ 1)) (fun u t => WW D cy κ u t) (AA κ)) 0 0 (AA κ) := by
  refine Met.twz (cc := cX3_isGreater) (maxL := 17) (by decide) rfl (Nat.le_of_ble_eq_true rfl) ?_
  intro p e s m args below meth c Q hx hb hml hown hts hK hT hret ls hl
  have hl : lv_has ls 17 [(0, .long p0), (2, .long p1), (4, .long p2), (6, .long p3)] := hl
  have hc0 : (0 : Int32).toInt = 0 := rfl
  have hc200 : (200 : Int32).toInt = 200 := rfl
  have hlc0 : (0 : Int64).toInt = 0 := rfl
  have hc1 : (1 : Int32).toInt = 1 := rfl
  have main : ∀ (H : Heap) (locs : List Loc), TW D cy κ G H → va_S (AA κ) s.heap H locs → W p l e rmX3_isGreater s m args below meth c H locs 0 0 Q (F0 m 0 ls []) := by
    intro H locs hT hS
    refine lv_iconst (v := (0 : Int32)) hx hb dX3_isGreater_0 (by decide) ?_
    refine lv_istore (lv' := [(8, .int (0 : Int32)), (0, .long p0), (2, .long p1), (4, .long p2), (6, .long p3)]) hx hb dX3_isGreater_1 hl (by decide) rfl (fun ls hl => ?_)
    have L3 : ∀ (nn : Nat) (H : Heap) (locs : List Loc) (ls : Array Slot) (x1 : Int32) (y2 : Int64) (y3 : Int64) (y4 : Int64) (y5 : Int64), (nn = (2147483647 - x1.toInt).toNat) → (TW D cy κ G H) → (va_S (AA κ) s.heap H locs) → (lv_has ls 17 [(8, .int x1), (0, .long y2), (2, .long y3), (4, .long y4), (6, .long y5)]) → (0 ≤ x1.toInt ∧ x1.toInt ≤ 200) → W p l e rmX3_isGreater s m args below meth c H locs 0 0 Q (F0 m 3 ls []) := by
      intro nn
      induction nn using Nat.strongRecOn with
      | _ nn ih3 =>
        intro H locs ls x1 y2 y3 y4 y5 hnn hT hS hl fL3_0
        refine lv_iload hx hb dX3_isGreater_3 (lv_at hl 0 rfl) ?_
        refine lv_sipush (v := (200 : Int32)) hx hb dX3_isGreater_5 (by decide) ?_
        have J89 : ∀ (H : Heap) (locs : List Loc) (ls : Array Slot) , (TW D cy κ G H) → (va_S (AA κ) s.heap H locs) → (lv_has ls 17 [(8, .int x1), (0, .long y2), (2, .long y3), (4, .long y4), (6, .long y5)]) → W p l e rmX3_isGreater s m args below meth c H locs 0 0 Q (F0 m 89 ls []) := by
          intro H locs ls  hT hS hl 
          refine lv_lload_n hx hb dX3_isGreater_89 rfl (lv_at hl 2 rfl) ?_
          refine lv_lconst (v := 0) hx hb dX3_isGreater_90 (by decide) ?_
          refine tb_lcmp2 hx hb dX3_isGreater_91 (fun x6 tx6 ux6 => ?_)
          refine tb_if_ne (tgt := 106) hx hb dX3_isGreater_92 (by decide) (fun c7 => ?_) (fun c7 => ?_)
          · skip
            refine lv_iconst (v := (0 : Int32)) hx hb dX3_isGreater_106 (by decide) ?_
            exact hret H locs ls 107 (0 : Int32) G dX3_isGreater_107 (by omega) ⟨rfl, by omega⟩ hT hS
          · skip
            refine lv_lload hx hb dX3_isGreater_95 (lv_at hl 4 rfl) ?_
            refine lv_lconst (v := 0) hx hb dX3_isGreater_97 (by decide) ?_
            refine tb_lcmp2 hx hb dX3_isGreater_98 (fun x8 tx8 ux8 => ?_)
            refine tb_if_eq (tgt := 106) hx hb dX3_isGreater_99 (by decide) (fun c9 => ?_) (fun c9 => ?_)
            · skip
              refine lv_iconst (v := (0 : Int32)) hx hb dX3_isGreater_106 (by decide) ?_
              exact hret H locs ls 107 (0 : Int32) G dX3_isGreater_107 (by omega) ⟨rfl, by omega⟩ hT hS
            · skip
              refine lv_iconst (v := (1 : Int32)) hx hb dX3_isGreater_102 (by decide) ?_
              refine lv_goto (tgt := 107) hx hb dX3_isGreater_103 (by decide) ?_
              exact hret H locs ls 107 (1 : Int32) G dX3_isGreater_107 (by omega) ⟨rfl, by omega⟩ hT hS
        refine tb_icmp_ge (tgt := 89) hx hb dX3_isGreater_8 (by decide) (fun c10 => ?_) (fun c10 => ?_)
        · skip
          exact J89 H locs ls  hT hS (lv_sub hl [0, 1, 2, 3, 4] rfl) 
        · skip
          refine lv_lload_n hx hb dX3_isGreater_11 rfl (lv_at hl 2 rfl) ?_
          refine lv_lconst (v := 0) hx hb dX3_isGreater_12 (by decide) ?_
          refine tb_lcmp2 hx hb dX3_isGreater_13 (fun x11 tx11 ux11 => ?_)
          refine tb_if_eq (tgt := 89) hx hb dX3_isGreater_14 (by decide) (fun c12 => ?_) (fun c12 => ?_)
          · skip
            exact J89 H locs ls  hT hS (lv_sub hl [0, 1, 2, 3, 4] rfl) 
          · skip
            refine lv_lload hx hb dX3_isGreater_17 (lv_at hl 4 rfl) ?_
            refine lv_lconst (v := 0) hx hb dX3_isGreater_19 (by decide) ?_
            refine tb_lcmp2 hx hb dX3_isGreater_20 (fun x13 tx13 ux13 => ?_)
            refine tb_if_eq (tgt := 89) hx hb dX3_isGreater_21 (by decide) (fun c14 => ?_) (fun c14 => ?_)
            · skip
              exact J89 H locs ls  hT hS (lv_sub hl [0, 1, 2, 3, 4] rfl) 
            · skip
              refine lv_lload_n hx hb dX3_isGreater_24 rfl (lv_at hl 1 rfl) ?_
              refine lv_lload_n hx hb dX3_isGreater_25 rfl (lv_at hl 2 rfl) ?_
              refine lv_ldiv hx hb dX3_isGreater_26 (ne64 (by omega)) ?_
              refine lv_topl (fun y15 ey15 => ?_)
              have ty15 : y15.toInt = (y2 / y3).toInt := by rw [ey15]
              refine lv_lstore (lv' := [(9, .long y15), (8, .int x1), (0, .long y2), (2, .long y3), (4, .long y4), (6, .long y5)]) hx hb dX3_isGreater_27 hl (by decide) rfl (fun ls hl => ?_)
              refine lv_lload hx hb dX3_isGreater_29 (lv_at hl 4 rfl) ?_
              refine lv_lload hx hb dX3_isGreater_31 (lv_at hl 5 rfl) ?_
              refine lv_ldiv hx hb dX3_isGreater_33 (ne64 (by omega)) ?_
              refine lv_topl (fun y16 ey16 => ?_)
              have ty16 : y16.toInt = (y4 / y5).toInt := by rw [ey16]
              refine lv_lstore (lv' := [(11, .long y16), (9, .long y15), (8, .int x1), (0, .long y2), (2, .long y3), (4, .long y4), (6, .long y5)]) hx hb dX3_isGreater_34 hl (by decide) rfl (fun ls hl => ?_)
              refine lv_lload hx hb dX3_isGreater_36 (lv_at hl 1 rfl) ?_
              refine lv_lload hx hb dX3_isGreater_38 (lv_at hl 0 rfl) ?_
              refine tb_lcmp2 hx hb dX3_isGreater_40 (fun x17 tx17 ux17 => ?_)
              refine tb_if_eq (tgt := 58) hx hb dX3_isGreater_41 (by decide) (fun c18 => ?_) (fun c18 => ?_)
              · skip
                refine lv_lload_n hx hb dX3_isGreater_58 rfl (lv_at hl 3 rfl) ?_
                refine lv_lload_n hx hb dX3_isGreater_59 rfl (lv_at hl 4 rfl) ?_
                refine lv_lrem hx hb dX3_isGreater_60 (ne64 (by omega)) ?_
                refine lv_topl (fun y19 ey19 => ?_)
                rw [lrem_eq] at ey19
                have ty19 : y19.toInt = (y2 % y3).toInt := by rw [ey19]
                have ny19 := rem64 ey19 (by omega)
                refine lv_lstore (lv' := [(13, .long y19), (11, .long y16), (9, .long y15), (8, .int x1), (0, .long y2), (2, .long y3), (4, .long y4), (6, .long y5)]) hx hb dX3_isGreater_61 hl (by decide) rfl (fun ls hl => ?_)
                refine lv_lload hx hb dX3_isGreater_63 (lv_at hl 6 rfl) ?_
                refine lv_lload hx hb dX3_isGreater_65 (lv_at hl 7 rfl) ?_
                refine lv_lrem hx hb dX3_isGreater_67 (ne64 (by omega)) ?_
                refine lv_topl (fun y20 ey20 => ?_)
                rw [lrem_eq] at ey20
                have ty20 : y20.toInt = (y4 % y5).toInt := by rw [ey20]
                have ny20 := rem64 ey20 (by omega)
                refine lv_lstore (lv' := [(15, .long y20), (13, .long y19), (11, .long y16), (9, .long y15), (8, .int x1), (0, .long y2), (2, .long y3), (4, .long y4), (6, .long y5)]) hx hb dX3_isGreater_68 hl (by decide) rfl (fun ls hl => ?_)
                refine lv_lload hx hb dX3_isGreater_70 (lv_at hl 8 rfl) ?_
                refine lv_lstore_n (lv' := [(0, .long y5), (15, .long y20), (13, .long y19), (11, .long y16), (9, .long y15), (8, .int x1), (2, .long y3), (4, .long y4), (6, .long y5)]) hx hb dX3_isGreater_72 rfl hl (by decide) rfl (fun ls hl => ?_)
                refine lv_lload_n hx hb dX3_isGreater_73 rfl (lv_at hl 6 rfl) ?_
                refine lv_lstore (lv' := [(4, .long y3), (0, .long y5), (15, .long y20), (13, .long y19), (11, .long y16), (9, .long y15), (8, .int x1), (2, .long y3), (6, .long y5)]) hx hb dX3_isGreater_74 hl (by decide) rfl (fun ls hl => ?_)
                refine lv_lload hx hb dX3_isGreater_76 (lv_at hl 2 rfl) ?_
                refine lv_lstore_n (lv' := [(2, .long y20), (4, .long y3), (0, .long y5), (15, .long y20), (13, .long y19), (11, .long y16), (9, .long y15), (8, .int x1), (6, .long y5)]) hx hb dX3_isGreater_78 rfl hl (by decide) rfl (fun ls hl => ?_)
                refine lv_lload hx hb dX3_isGreater_79 (lv_at hl 4 rfl) ?_
                refine lv_lstore (lv' := [(6, .long y19), (2, .long y20), (4, .long y3), (0, .long y5), (15, .long y20), (13, .long y19), (11, .long y16), (9, .long y15), (8, .int x1)]) hx hb dX3_isGreater_81 hl (by decide) rfl (fun ls hl => ?_)
                obtain ⟨x21, ex21⟩ : ∃ z : Int32, z = x1 + (1 : Int32) := ⟨_, rfl⟩
                refine lv_iinc (v := x21) (lv' := [(8, .int x21), (6, .long y19), (2, .long y20), (4, .long y3), (0, .long y5), (15, .long y20), (13, .long y19), (11, .long y16), (9, .long y15)]) hx hb dX3_isGreater_83 hl (k := 8) rfl (by rw [ex21]; rfl) (by decide) rfl (fun ls hl => ?_)
                have tx21 : x21.toInt = x1.toInt + 1 := by rw [ex21, ti_add (by have := i32b x1; omega), hc1]
                refine lv_goto (tgt := 3) hx hb dX3_isGreater_86 (by decide) ?_
                exact ih3 ((2147483647 - x21.toInt).toNat) (by have := i32b x21; omega) H locs ls x21 y5 y20 y3 y19 rfl hT hS (lv_sub hl [0, 4, 2, 3, 1] rfl) (by omega)
              · skip
                refine lv_lload hx hb dX3_isGreater_44 (lv_at hl 1 rfl) ?_
                refine lv_lload hx hb dX3_isGreater_46 (lv_at hl 0 rfl) ?_
                refine tb_lcmp2 hx hb dX3_isGreater_48 (fun x22 tx22 ux22 => ?_)
                refine tb_if_le (tgt := 56) hx hb dX3_isGreater_49 (by decide) (fun c23 => ?_) (fun c23 => ?_)
                · skip
                  refine lv_iconst (v := (0 : Int32)) hx hb dX3_isGreater_56 (by decide) ?_
                  exact hret H locs ls 57 (0 : Int32) G dX3_isGreater_57 (by omega) ⟨rfl, by omega⟩ hT hS
                · skip
                  refine lv_iconst (v := (1 : Int32)) hx hb dX3_isGreater_52 (by decide) ?_
                  refine lv_goto (tgt := 57) hx hb dX3_isGreater_53 (by decide) ?_
                  exact hret H locs ls 57 (1 : Int32) G dX3_isGreater_57 (by omega) ⟨rfl, by omega⟩ hT hS
    exact L3 _ H locs ls (0 : Int32) p0 p1 p2 p3 rfl hT hS (lv_sub hl [0, 1, 2, 3, 4] rfl) (by omega)
  exact main s.heap [] hT va_S.rf

abbrev rmX5_become : Room := { frames := 0, cells := 0, slots := 0, locals := 0 }
set_option maxHeartbeats 4000000 in
set_option maxRecDepth 100000 in
theorem c_X5_become (l : Launch) (D : va_G) (cy : Nat → ClassId) (κ : Nat → Nat) (G : Gh) (p0 : Nat) (k0 : κ p0 = 6) (p1 : Int32) (q1 : 0 ≤ p1.toInt ∧ p1.toInt ≤ 2) (p2 : Int32) (p3 : Int32) (p4 : Int32) : Met l yX5_become wsX5_become rmX5_become (va_Pc [.ref p0, .int p1, .int p2, .int p3, .int p4] (fun U => WW D cy κ G U)) (va_Qv (fun u : Gh => u = G ∧ (True)) (fun u t => WW D cy κ u t) (AA κ)) 0 0 (AA κ) := by
  refine Met.twv (cc := cX5_become) (maxL := 5) (by decide) rfl (Nat.le_of_ble_eq_true rfl) ?_
  intro p e s m args below meth c Q hx hb hml hown hts hK hT hret ls hl
  have hl : lv_has ls 5 [(0, .ref p0), (1, .int p1), (2, .int p2), (3, .int p3), (4, .int p4)] := hl
  have hfl9 := hts (.fieldLink RX5 9 "PlyPlates$Layer" "stuffNumber" "I") (by decide +kernel)
  have hin5 : ∀ w ∈ u_ws RX5 TX5 4, w ∈ wsX5_become := by decide +kernel
  have hfl15 := hts (.fieldLink RX5 15 "PlyPlates$Layer" "way" "I") (by decide +kernel)
  have hfl18 := hts (.fieldLink RX5 18 "PlyPlates$Layer" "thick" "I") (by decide +kernel)
  have hfl21 := hts (.fieldLink RX5 21 "PlyPlates$Layer" "broken" "I") (by decide +kernel)
  have main : ∀ (H : Heap) (locs : List Loc), TW D cy κ G H → va_S (AA κ) s.heap H locs → W p l e rmX5_become s m args below meth c H locs 0 0 Q (F0 m 0 ls []) := by
    intro H locs hT hS
    refine lv_aload_n hx hb dX5_become_0 rfl (lv_at hl 0 rfl) ?_
    refine lv_iload_n hx hb dX5_become_1 rfl (lv_at hl 1 rfl) ?_
    refine pf_5_0 hx hb hts hin5 hown hK hT hS k0 hfl9 dX5_become_2 (by omega) (fun H locs hT hS => ?_)
    refine lv_aload_n hx hb dX5_become_5 rfl (lv_at hl 0 rfl) ?_
    refine lv_iload_n hx hb dX5_become_6 rfl (lv_at hl 2 rfl) ?_
    refine pf_5_1 hx hb hts hin5 hown hK hT hS k0 hfl15 dX5_become_7 (fun H locs hT hS => ?_)
    refine lv_aload_n hx hb dX5_become_10 rfl (lv_at hl 0 rfl) ?_
    refine lv_iload_n hx hb dX5_become_11 rfl (lv_at hl 3 rfl) ?_
    refine pf_5_2 hx hb hts hin5 hown hK hT hS k0 hfl18 dX5_become_12 (fun H locs hT hS => ?_)
    refine lv_aload_n hx hb dX5_become_15 rfl (lv_at hl 0 rfl) ?_
    refine lv_iload hx hb dX5_become_16 (lv_at hl 4 rfl) ?_
    refine pf_5_3 hx hb hts hin5 hown hK hT hS k0 hfl21 dX5_become_18 (fun H locs hT hS => ?_)
    exact hret H locs ls 21 G dX5_become_21 ⟨rfl, trivial⟩ hT hS
  exact main s.heap [] hT va_S.rf

abbrev rmX5_isLike : Room := { frames := 0, cells := 0, slots := 0, locals := 0 }
set_option maxHeartbeats 4000000 in
set_option maxRecDepth 100000 in
theorem c_X5_isLike (l : Launch) (D : va_G) (cy : Nat → ClassId) (κ : Nat → Nat) (G : Gh) (p0 : Nat) (k0 : κ p0 = 6) (p1 : Nat) (k1 : κ p1 = 6) : Met l yX5_isLike wsX5_isLike rmX5_isLike (va_Pc [.ref p0, .ref p1] (fun U => WW D cy κ G U)) (va_Qi (fun (r : Int32) (u : Gh) => u = G ∧ (0 ≤ r.toInt ∧ r.toInt ≤ 1)) (fun u t => WW D cy κ u t) (AA κ)) 0 0 (AA κ) := by
  refine Met.twz (cc := cX5_isLike) (maxL := 2) (by decide) rfl (Nat.le_of_ble_eq_true rfl) ?_
  intro p e s m args below meth c Q hx hb hml hown hts hK hT hret ls hl
  have hl : lv_has ls 2 [(0, .ref p0), (1, .ref p1)] := hl
  have hfl9 := hts (.fieldLink RX5 9 "PlyPlates$Layer" "stuffNumber" "I") (by decide +kernel)
  have hin5 : ∀ w ∈ u_ws RX5 TX5 4, w ∈ wsX5_isLike := by decide +kernel
  have hc0 : (0 : Int32).toInt = 0 := rfl
  have hfl15 := hts (.fieldLink RX5 15 "PlyPlates$Layer" "way" "I") (by decide +kernel)
  have hfl18 := hts (.fieldLink RX5 18 "PlyPlates$Layer" "thick" "I") (by decide +kernel)
  have hfl21 := hts (.fieldLink RX5 21 "PlyPlates$Layer" "broken" "I") (by decide +kernel)
  have hc1 : (1 : Int32).toInt = 1 := rfl
  have main : ∀ (H : Heap) (locs : List Loc), TW D cy κ G H → va_S (AA κ) s.heap H locs → W p l e rmX5_isLike s m args below meth c H locs 0 0 Q (F0 m 0 ls []) := by
    intro H locs hT hS
    refine lv_aload_n hx hb dX5_isLike_0 rfl (lv_at hl 0 rfl) ?_
    refine gf_5_0 hx hb hts hin5 hown hK hT k0 hfl9 dX5_isLike_1 (fun x1 kx1 fvx1 => ?_)
    refine lv_aload_n hx hb dX5_isLike_4 rfl (lv_at hl 1 rfl) ?_
    refine gf_5_0 hx hb hts hin5 hown hK hT k1 hfl9 dX5_isLike_5 (fun x2 kx2 fvx2 => ?_)
    refine tb_icmp_ne (tgt := 48) hx hb dX5_isLike_8 (by decide) (fun c3 => ?_) (fun c3 => ?_)
    · skip
      refine lv_iconst (v := (0 : Int32)) hx hb dX5_isLike_48 (by decide) ?_
      exact hret H locs ls 49 (0 : Int32) G dX5_isLike_49 (by omega) ⟨rfl, by omega⟩ hT hS
    · skip
      refine lv_aload_n hx hb dX5_isLike_11 rfl (lv_at hl 0 rfl) ?_
      refine gf_5_1 hx hb hts hin5 hown hK hT k0 hfl15 dX5_isLike_12 (fun x4 kx4 fvx4 => ?_)
      refine lv_aload_n hx hb dX5_isLike_15 rfl (lv_at hl 1 rfl) ?_
      refine gf_5_1 hx hb hts hin5 hown hK hT k1 hfl15 dX5_isLike_16 (fun x5 kx5 fvx5 => ?_)
      refine tb_icmp_ne (tgt := 48) hx hb dX5_isLike_19 (by decide) (fun c6 => ?_) (fun c6 => ?_)
      · skip
        refine lv_iconst (v := (0 : Int32)) hx hb dX5_isLike_48 (by decide) ?_
        exact hret H locs ls 49 (0 : Int32) G dX5_isLike_49 (by omega) ⟨rfl, by omega⟩ hT hS
      · skip
        refine lv_aload_n hx hb dX5_isLike_22 rfl (lv_at hl 0 rfl) ?_
        refine gf_5_2 hx hb hts hin5 hown hK hT k0 hfl18 dX5_isLike_23 (fun x7 kx7 fvx7 => ?_)
        refine lv_aload_n hx hb dX5_isLike_26 rfl (lv_at hl 1 rfl) ?_
        refine gf_5_2 hx hb hts hin5 hown hK hT k1 hfl18 dX5_isLike_27 (fun x8 kx8 fvx8 => ?_)
        refine tb_icmp_ne (tgt := 48) hx hb dX5_isLike_30 (by decide) (fun c9 => ?_) (fun c9 => ?_)
        · skip
          refine lv_iconst (v := (0 : Int32)) hx hb dX5_isLike_48 (by decide) ?_
          exact hret H locs ls 49 (0 : Int32) G dX5_isLike_49 (by omega) ⟨rfl, by omega⟩ hT hS
        · skip
          refine lv_aload_n hx hb dX5_isLike_33 rfl (lv_at hl 0 rfl) ?_
          refine gf_5_3 hx hb hts hin5 hown hK hT k0 hfl21 dX5_isLike_34 (fun x10 kx10 fvx10 => ?_)
          refine lv_aload_n hx hb dX5_isLike_37 rfl (lv_at hl 1 rfl) ?_
          refine gf_5_3 hx hb hts hin5 hown hK hT k1 hfl21 dX5_isLike_38 (fun x11 kx11 fvx11 => ?_)
          refine tb_icmp_ne (tgt := 48) hx hb dX5_isLike_41 (by decide) (fun c12 => ?_) (fun c12 => ?_)
          · skip
            refine lv_iconst (v := (0 : Int32)) hx hb dX5_isLike_48 (by decide) ?_
            exact hret H locs ls 49 (0 : Int32) G dX5_isLike_49 (by omega) ⟨rfl, by omega⟩ hT hS
          · skip
            refine lv_iconst (v := (1 : Int32)) hx hb dX5_isLike_44 (by decide) ?_
            refine lv_goto (tgt := 49) hx hb dX5_isLike_45 (by decide) ?_
            exact hret H locs ls 49 (1 : Int32) G dX5_isLike_49 (by omega) ⟨rfl, by omega⟩ hT hS
  exact main s.heap [] hT va_S.rf

abbrev rmX6_become : Room := { frames := 0, cells := 0, slots := 0, locals := 0 }
set_option maxHeartbeats 4000000 in
set_option maxRecDepth 100000 in
theorem c_X6_become (l : Launch) (D : va_G) (cy : Nat → ClassId) (κ : Nat → Nat) (G : Gh) (p0 : Nat) (k0 : κ p0 = 7) (p1 : Nat) (k1 : κ p1 = 10) (p2 : Int32) : Met l yX6_become wsX6_become rmX6_become (va_Pc [.ref p0, .ref p1, .int p2] (fun U => WW D cy κ G U)) (va_Qv (fun u : Gh => u = G ∧ (True)) (fun u t => WW D cy κ u t) (AA κ)) 0 0 (AA κ) := by
  refine Met.twv (cc := cX6_become) (maxL := 4) (by decide) rfl (Nat.le_of_ble_eq_true rfl) ?_
  intro p e s m args below meth c Q hx hb hml hown hts hK hT hret ls hl
  have hl : lv_has ls 4 [(0, .ref p0), (1, .ref p1), (2, .int p2)] := hl
  have hc2 : (2 : Int32).toInt = 2 := rfl
  have hfl9 := hts (.fieldLink RX6 9 "PlyPlates$Left" "q11" "I") (by decide +kernel)
  have hin6 : ∀ w ∈ u_ws RX6 TX6 4, w ∈ wsX6_become := by decide +kernel
  have hfl15 := hts (.fieldLink RX6 15 "PlyPlates$Left" "q22" "I") (by decide +kernel)
  have hfl18 := hts (.fieldLink RX6 18 "PlyPlates$Left" "q12" "I") (by decide +kernel)
  have hfl21 := hts (.fieldLink RX6 21 "PlyPlates$Left" "q66" "I") (by decide +kernel)
  have hc0 : (0 : Int32).toInt = 0 := rfl
  have hfl29 := hts (.fieldLink RX6 29 "PlyPlates$Stuff" "q66" "I") (by decide +kernel)
  have hin9 : ∀ w ∈ u_ws RX9 TX9 7, w ∈ wsX6_become := by decide +kernel
  have hfl28 := hts (.fieldLink RX6 28 "PlyPlates$Stuff" "q12" "I") (by decide +kernel)
  have hfl27 := hts (.fieldLink RX6 27 "PlyPlates$Stuff" "q22" "I") (by decide +kernel)
  have hfl24 := hts (.fieldLink RX6 24 "PlyPlates$Stuff" "q11" "I") (by decide +kernel)
  have hc1 : (1 : Int32).toInt = 1 := rfl
  have main : ∀ (H : Heap) (locs : List Loc), TW D cy κ G H → va_S (AA κ) s.heap H locs → W p l e rmX6_become s m args below meth c H locs 0 0 Q (F0 m 0 ls []) := by
    intro H locs hT hS
    refine lv_iload_n hx hb dX6_become_0 rfl (lv_at hl 2 rfl) ?_
    have J9 : ∀ (H : Heap) (locs : List Loc) (ls : Array Slot) (x1 : Int32), (TW D cy κ G H) → (va_S (AA κ) s.heap H locs) → (lv_has ls 4 [(0, .ref p0), (1, .ref p1), (2, .int p2)]) → (0 ≤ x1.toInt ∧ x1.toInt ≤ 1) → W p l e rmX6_become s m args below meth c H locs 0 0 Q (F0 m 9 ls [.int x1]) := by
      intro H locs ls x1 hT hS hl fJ9_0
      refine lv_istore_n (lv' := [(3, .int x1), (0, .ref p0), (1, .ref p1), (2, .int p2)]) hx hb dX6_become_9 rfl hl (by decide) rfl (fun ls hl => ?_)
      refine lv_aload_n hx hb dX6_become_10 rfl (lv_at hl 1 rfl) ?_
      refine lv_iload_n hx hb dX6_become_11 rfl (lv_at hl 3 rfl) ?_
      refine lv_iconst (v := (2 : Int32)) hx hb dX6_become_12 (by decide) ?_
      have J24 : ∀ (H : Heap) (locs : List Loc) (ls : Array Slot) (x2 : Int32), (TW D cy κ G H) → (va_S (AA κ) s.heap H locs) → (lv_has ls 4 [(3, .int x1), (0, .ref p0), (1, .ref p1), (2, .int p2)]) → W p l e rmX6_become s m args below meth c H locs 0 0 Q (F0 m 24 ls [.int x2, .ref p0]) := by
        intro H locs ls x2 hT hS hl 
        refine pf_6_0 hx hb hts hin6 hown hK hT hS k0 hfl9 dX6_become_24 (fun H locs hT hS => ?_)
        refine lv_aload_n hx hb dX6_become_27 rfl (lv_at hl 1 rfl) ?_
        refine lv_iload_n hx hb dX6_become_28 rfl (lv_at hl 0 rfl) ?_
        have J40 : ∀ (H : Heap) (locs : List Loc) (ls : Array Slot) (x3 : Int32), (TW D cy κ G H) → (va_S (AA κ) s.heap H locs) → (lv_has ls 4 [(3, .int x1), (0, .ref p0), (1, .ref p1), (2, .int p2)]) → W p l e rmX6_become s m args below meth c H locs 0 0 Q (F0 m 40 ls [.int x3, .ref p0]) := by
          intro H locs ls x3 hT hS hl 
          refine pf_6_1 hx hb hts hin6 hown hK hT hS k0 hfl15 dX6_become_40 (fun H locs hT hS => ?_)
          refine lv_aload_n hx hb dX6_become_43 rfl (lv_at hl 1 rfl) ?_
          refine lv_iload_n hx hb dX6_become_44 rfl (lv_at hl 0 rfl) ?_
          have J56 : ∀ (H : Heap) (locs : List Loc) (ls : Array Slot) (x4 : Int32), (TW D cy κ G H) → (va_S (AA κ) s.heap H locs) → (lv_has ls 4 [(3, .int x1), (0, .ref p0), (1, .ref p1), (2, .int p2)]) → W p l e rmX6_become s m args below meth c H locs 0 0 Q (F0 m 56 ls [.int x4, .ref p0]) := by
            intro H locs ls x4 hT hS hl 
            refine pf_6_2 hx hb hts hin6 hown hK hT hS k0 hfl18 dX6_become_56 (fun H locs hT hS => ?_)
            refine lv_aload_n hx hb dX6_become_59 rfl (lv_at hl 1 rfl) ?_
            refine lv_iload_n hx hb dX6_become_60 rfl (lv_at hl 0 rfl) ?_
            have J72 : ∀ (H : Heap) (locs : List Loc) (ls : Array Slot) (x5 : Int32), (TW D cy κ G H) → (va_S (AA κ) s.heap H locs) → (lv_has ls 4 [(3, .int x1), (0, .ref p0), (1, .ref p1), (2, .int p2)]) → W p l e rmX6_become s m args below meth c H locs 0 0 Q (F0 m 72 ls [.int x5, .ref p0]) := by
              intro H locs ls x5 hT hS hl 
              refine pf_6_3 hx hb hts hin6 hown hK hT hS k0 hfl21 dX6_become_72 (fun H locs hT hS => ?_)
              exact hret H locs ls 75 G dX6_become_75 ⟨rfl, trivial⟩ hT hS
            refine tb_if_eq (tgt := 71) hx hb dX6_become_61 (by decide) (fun c6 => ?_) (fun c6 => ?_)
            · skip
              refine lv_iconst (v := (0 : Int32)) hx hb dX6_become_71 (by decide) ?_
              exact J72 H locs ls (0 : Int32) hT hS (lv_sub hl [0, 1, 2, 3] rfl) 
            · skip
              refine lv_aload_n hx hb dX6_become_64 rfl (lv_at hl 2 rfl) ?_
              refine gf_9_3 hx hb hts hin9 hown hK hT k1 hfl29 dX6_become_65 (fun x7 kx7 fvx7 => ?_)
              refine lv_goto (tgt := 72) hx hb dX6_become_68 (by decide) ?_
              exact J72 H locs ls x7 hT hS (lv_sub hl [0, 1, 2, 3] rfl) 
          refine tb_if_eq (tgt := 55) hx hb dX6_become_45 (by decide) (fun c8 => ?_) (fun c8 => ?_)
          · skip
            refine lv_iconst (v := (0 : Int32)) hx hb dX6_become_55 (by decide) ?_
            exact J56 H locs ls (0 : Int32) hT hS (lv_sub hl [0, 1, 2, 3] rfl) 
          · skip
            refine lv_aload_n hx hb dX6_become_48 rfl (lv_at hl 2 rfl) ?_
            refine gf_9_2 hx hb hts hin9 hown hK hT k1 hfl28 dX6_become_49 (fun x9 kx9 fvx9 => ?_)
            refine lv_goto (tgt := 56) hx hb dX6_become_52 (by decide) ?_
            exact J56 H locs ls x9 hT hS (lv_sub hl [0, 1, 2, 3] rfl) 
        refine tb_if_eq (tgt := 39) hx hb dX6_become_29 (by decide) (fun c10 => ?_) (fun c10 => ?_)
        · skip
          refine lv_iconst (v := (0 : Int32)) hx hb dX6_become_39 (by decide) ?_
          exact J40 H locs ls (0 : Int32) hT hS (lv_sub hl [0, 1, 2, 3] rfl) 
        · skip
          refine lv_aload_n hx hb dX6_become_32 rfl (lv_at hl 2 rfl) ?_
          refine gf_9_1 hx hb hts hin9 hown hK hT k1 hfl27 dX6_become_33 (fun x11 kx11 fvx11 => ?_)
          refine lv_goto (tgt := 40) hx hb dX6_become_36 (by decide) ?_
          exact J40 H locs ls x11 hT hS (lv_sub hl [0, 1, 2, 3] rfl) 
      refine tb_icmp_ne (tgt := 20) hx hb dX6_become_13 (by decide) (fun c12 => ?_) (fun c12 => ?_)
      · skip
        refine lv_aload_n hx hb dX6_become_20 rfl (lv_at hl 2 rfl) ?_
        refine gf_9_0 hx hb hts hin9 hown hK hT k1 hfl24 dX6_become_21 (fun x13 kx13 fvx13 => ?_)
        exact J24 H locs ls x13 hT hS (lv_sub hl [0, 1, 2, 3] rfl) 
      · skip
        refine lv_iconst (v := (0 : Int32)) hx hb dX6_become_16 (by decide) ?_
        refine lv_goto (tgt := 24) hx hb dX6_become_17 (by decide) ?_
        exact J24 H locs ls (0 : Int32) hT hS (lv_sub hl [0, 1, 2, 3] rfl) 
    refine tb_if_ne (tgt := 8) hx hb dX6_become_1 (by decide) (fun c14 => ?_) (fun c14 => ?_)
    · skip
      refine lv_iconst (v := (0 : Int32)) hx hb dX6_become_8 (by decide) ?_
      exact J9 H locs ls (0 : Int32) hT hS (lv_sub hl [0, 1, 2] rfl) (by omega)
    · skip
      refine lv_iconst (v := (1 : Int32)) hx hb dX6_become_4 (by decide) ?_
      refine lv_goto (tgt := 9) hx hb dX6_become_5 (by decide) ?_
      exact J9 H locs ls (1 : Int32) hT hS (lv_sub hl [0, 1, 2] rfl) (by omega)
  exact main s.heap [] hT va_S.rf

abbrev rmX6_turn : Room := { frames := 0, cells := 0, slots := 0, locals := 0 }
set_option maxHeartbeats 4000000 in
set_option maxRecDepth 100000 in
theorem c_X6_turn (l : Launch) (D : va_G) (cy : Nat → ClassId) (κ : Nat → Nat) (G : Gh) (p0 : Nat) (k0 : κ p0 = 7) (p1 : Int32) (p2 : Nat) (k2 : κ p2 = 1006) : Met l yX6_turn wsX6_turn rmX6_turn (va_Pc [.ref p0, .int p1, .ref p2] (fun U => WW D cy κ G U)) (va_Qv (fun u : Gh => u = G ∧ (True)) (fun u t => WW D cy κ u t) (AA κ)) 0 0 (AA κ) := by
  refine Met.twv (cc := cX6_turn) (maxL := 3) (by decide) rfl (Nat.le_of_ble_eq_true rfl) ?_
  intro p e s m args below meth c Q hx hb hml hown hts hK hT hret ls hl
  have hl : lv_has ls 3 [(0, .ref p0), (1, .int p1), (2, .ref p2)] := hl
  have hc0 : (0 : Int32).toInt = 0 := rfl
  have hc4 : (4 : Int32).toInt = 4 := rfl
  have hc1 : (1 : Int32).toInt = 1 := rfl
  have hc2 : (2 : Int32).toInt = 2 := rfl
  have hfl18 := hts (.fieldLink RX6 18 "PlyPlates$Left" "q12" "I") (by decide +kernel)
  have hin6 : ∀ w ∈ u_ws RX6 TX6 4, w ∈ wsX6_turn := by decide +kernel
  have hc3 : (3 : Int32).toInt = 3 := rfl
  have hfl21 := hts (.fieldLink RX6 21 "PlyPlates$Left" "q66" "I") (by decide +kernel)
  have hc5 : (5 : Int32).toInt = 5 := rfl
  have hfl9 := hts (.fieldLink RX6 9 "PlyPlates$Left" "q11" "I") (by decide +kernel)
  have hfl15 := hts (.fieldLink RX6 15 "PlyPlates$Left" "q22" "I") (by decide +kernel)
  have main : ∀ (H : Heap) (locs : List Loc), TW D cy κ G H → va_S (AA κ) s.heap H locs → W p l e rmX6_turn s m args below meth c H locs 0 0 Q (F0 m 0 ls []) := by
    intro H locs hT hS
    refine lv_iload_n hx hb dX6_turn_0 rfl (lv_at hl 1 rfl) ?_
    have J9 : ∀ (H : Heap) (locs : List Loc) (ls : Array Slot) , (TW D cy κ G H) → (va_S (AA κ) s.heap H locs) → (lv_has ls 3 [(0, .ref p0), (1, .int p1), (2, .ref p2)]) → W p l e rmX6_turn s m args below meth c H locs 0 0 Q (F0 m 9 ls []) := by
      intro H locs ls  hT hS hl 
      refine lv_aload_n hx hb dX6_turn_9 rfl (lv_at hl 2 rfl) ?_
      refine lv_iconst (v := (0 : Int32)) hx hb dX6_turn_10 (by decide) ?_
      refine lv_iconst (v := (4 : Int32)) hx hb dX6_turn_11 (by decide) ?_
      refine lv_iload_n hx hb dX6_turn_12 rfl (lv_at hl 1 rfl) ?_
      have J27 : ∀ (H : Heap) (locs : List Loc) (ls : Array Slot) (x1 : Int32), (TW D cy κ G H) → (va_S (AA κ) s.heap H locs) → (lv_has ls 3 [(0, .ref p0), (1, .int p1), (2, .ref p2)]) → W p l e rmX6_turn s m args below meth c H locs 0 0 Q (F0 m 27 ls [.int x1, .int (4 : Int32), .int (0 : Int32), .ref p2]) := by
        intro H locs ls x1 hT hS hl 
        refine lv_imul hx hb dX6_turn_27 ?_
        refine lv_topi (fun x2 ex2 => ?_)
        have tx2 : x2.toInt = ((4 : Int32) * x1).toInt := by rw [ex2]
        refine tw_ias (K := 1006) (n := 6) (P := fun _ => True) hx hb hK hT hS k2 (by decide) rfl rfl (by omega) rfl trivial dX6_turn_28 (fun H locs hT hS hq => ?_)
        refine lv_aload_n hx hb dX6_turn_29 rfl (lv_at hl 2 rfl) ?_
        refine lv_iconst (v := (1 : Int32)) hx hb dX6_turn_30 (by decide) ?_
        refine lv_iconst (v := (4 : Int32)) hx hb dX6_turn_31 (by decide) ?_
        refine lv_iload_n hx hb dX6_turn_32 rfl (lv_at hl 1 rfl) ?_
        have J47 : ∀ (H : Heap) (locs : List Loc) (ls : Array Slot) (x3 : Int32), (TW D cy κ G H) → (va_S (AA κ) s.heap H locs) → (lv_has ls 3 [(0, .ref p0), (1, .int p1), (2, .ref p2)]) → W p l e rmX6_turn s m args below meth c H locs 0 0 Q (F0 m 47 ls [.int x3, .int (4 : Int32), .int (1 : Int32), .ref p2]) := by
          intro H locs ls x3 hT hS hl 
          refine lv_imul hx hb dX6_turn_47 ?_
          refine lv_topi (fun x4 ex4 => ?_)
          have tx4 : x4.toInt = ((4 : Int32) * x3).toInt := by rw [ex4]
          refine tw_ias (K := 1006) (n := 6) (P := fun _ => True) hx hb hK hT hS k2 (by decide) rfl rfl (by omega) rfl trivial dX6_turn_48 (fun H locs hT hS hq => ?_)
          refine lv_aload_n hx hb dX6_turn_49 rfl (lv_at hl 2 rfl) ?_
          refine lv_iconst (v := (2 : Int32)) hx hb dX6_turn_50 (by decide) ?_
          refine lv_iconst (v := (4 : Int32)) hx hb dX6_turn_51 (by decide) ?_
          refine lv_aload_n hx hb dX6_turn_52 rfl (lv_at hl 0 rfl) ?_
          refine gf_6_2 hx hb hts hin6 hown hK hT k0 hfl18 dX6_turn_53 (fun x5 kx5 fvx5 => ?_)
          refine lv_imul hx hb dX6_turn_56 ?_
          refine lv_topi (fun x6 ex6 => ?_)
          have tx6 : x6.toInt = ((4 : Int32) * x5).toInt := by rw [ex6]
          refine tw_ias (K := 1006) (n := 6) (P := fun _ => True) hx hb hK hT hS k2 (by decide) rfl rfl (by omega) rfl trivial dX6_turn_57 (fun H locs hT hS hq => ?_)
          refine lv_aload_n hx hb dX6_turn_58 rfl (lv_at hl 2 rfl) ?_
          refine lv_iconst (v := (3 : Int32)) hx hb dX6_turn_59 (by decide) ?_
          refine lv_iconst (v := (4 : Int32)) hx hb dX6_turn_60 (by decide) ?_
          refine lv_aload_n hx hb dX6_turn_61 rfl (lv_at hl 0 rfl) ?_
          refine gf_6_3 hx hb hts hin6 hown hK hT k0 hfl21 dX6_turn_62 (fun x7 kx7 fvx7 => ?_)
          refine lv_imul hx hb dX6_turn_65 ?_
          refine lv_topi (fun x8 ex8 => ?_)
          have tx8 : x8.toInt = ((4 : Int32) * x7).toInt := by rw [ex8]
          refine tw_ias (K := 1006) (n := 6) (P := fun _ => True) hx hb hK hT hS k2 (by decide) rfl rfl (by omega) rfl trivial dX6_turn_66 (fun H locs hT hS hq => ?_)
          refine lv_aload_n hx hb dX6_turn_67 rfl (lv_at hl 2 rfl) ?_
          refine lv_iconst (v := (4 : Int32)) hx hb dX6_turn_68 (by decide) ?_
          refine lv_iconst (v := (0 : Int32)) hx hb dX6_turn_69 (by decide) ?_
          refine tw_ias (K := 1006) (n := 6) (P := fun _ => True) hx hb hK hT hS k2 (by decide) rfl rfl (by omega) rfl trivial dX6_turn_70 (fun H locs hT hS hq => ?_)
          refine lv_aload_n hx hb dX6_turn_71 rfl (lv_at hl 2 rfl) ?_
          refine lv_iconst (v := (5 : Int32)) hx hb dX6_turn_72 (by decide) ?_
          refine lv_iconst (v := (0 : Int32)) hx hb dX6_turn_73 (by decide) ?_
          refine tw_ias (K := 1006) (n := 6) (P := fun _ => True) hx hb hK hT hS k2 (by decide) rfl rfl (by omega) rfl trivial dX6_turn_74 (fun H locs hT hS hq => ?_)
          exact hret H locs ls 75 G dX6_turn_75 ⟨rfl, trivial⟩ hT hS
        refine tb_if_ne (tgt := 43) hx hb dX6_turn_33 (by decide) (fun c9 => ?_) (fun c9 => ?_)
        · skip
          refine lv_aload_n hx hb dX6_turn_43 rfl (lv_at hl 0 rfl) ?_
          refine gf_6_0 hx hb hts hin6 hown hK hT k0 hfl9 dX6_turn_44 (fun x10 kx10 fvx10 => ?_)
          exact J47 H locs ls x10 hT hS (lv_sub hl [0, 1, 2] rfl) 
        · skip
          refine lv_aload_n hx hb dX6_turn_36 rfl (lv_at hl 0 rfl) ?_
          refine gf_6_1 hx hb hts hin6 hown hK hT k0 hfl15 dX6_turn_37 (fun x11 kx11 fvx11 => ?_)
          refine lv_goto (tgt := 47) hx hb dX6_turn_40 (by decide) ?_
          exact J47 H locs ls x11 hT hS (lv_sub hl [0, 1, 2] rfl) 
      refine tb_if_ne (tgt := 23) hx hb dX6_turn_13 (by decide) (fun c12 => ?_) (fun c12 => ?_)
      · skip
        refine lv_aload_n hx hb dX6_turn_23 rfl (lv_at hl 0 rfl) ?_
        refine gf_6_1 hx hb hts hin6 hown hK hT k0 hfl15 dX6_turn_24 (fun x13 kx13 fvx13 => ?_)
        exact J27 H locs ls x13 hT hS (lv_sub hl [0, 1, 2] rfl) 
      · skip
        refine lv_aload_n hx hb dX6_turn_16 rfl (lv_at hl 0 rfl) ?_
        refine gf_6_0 hx hb hts hin6 hown hK hT k0 hfl9 dX6_turn_17 (fun x14 kx14 fvx14 => ?_)
        refine lv_goto (tgt := 27) hx hb dX6_turn_20 (by decide) ?_
        exact J27 H locs ls x14 hT hS (lv_sub hl [0, 1, 2] rfl) 
    refine tb_if_eq (tgt := 9) hx hb dX6_turn_1 (by decide) (fun c15 => ?_) (fun c15 => ?_)
    · skip
      exact J9 H locs ls  hT hS (lv_sub hl [0, 1, 2] rfl) 
    · skip
      refine lv_iload_n hx hb dX6_turn_4 rfl (lv_at hl 1 rfl) ?_
      refine lv_iconst (v := (1 : Int32)) hx hb dX6_turn_5 (by decide) ?_
      refine tb_icmp_ne (tgt := 76) hx hb dX6_turn_6 (by decide) (fun c16 => ?_) (fun c16 => ?_)
      · skip
        refine lv_aload_n hx hb dX6_turn_76 rfl (lv_at hl 2 rfl) ?_
        refine lv_iconst (v := (0 : Int32)) hx hb dX6_turn_77 (by decide) ?_
        refine lv_aload_n hx hb dX6_turn_78 rfl (lv_at hl 0 rfl) ?_
        refine gf_6_0 hx hb hts hin6 hown hK hT k0 hfl9 dX6_turn_79 (fun x17 kx17 fvx17 => ?_)
        refine lv_aload_n hx hb dX6_turn_82 rfl (lv_at hl 0 rfl) ?_
        refine gf_6_1 hx hb hts hin6 hown hK hT k0 hfl15 dX6_turn_83 (fun x18 kx18 fvx18 => ?_)
        refine lv_iadd hx hb dX6_turn_86 ?_
        refine lv_topi (fun x19 ex19 => ?_)
        have tx19 : x19.toInt = (x17 + x18).toInt := by rw [ex19]
        refine lv_iconst (v := (2 : Int32)) hx hb dX6_turn_87 (by decide) ?_
        refine lv_aload_n hx hb dX6_turn_88 rfl (lv_at hl 0 rfl) ?_
        refine gf_6_2 hx hb hts hin6 hown hK hT k0 hfl18 dX6_turn_89 (fun x20 kx20 fvx20 => ?_)
        refine lv_imul hx hb dX6_turn_92 ?_
        refine lv_topi (fun x21 ex21 => ?_)
        have tx21 : x21.toInt = ((2 : Int32) * x20).toInt := by rw [ex21]
        refine lv_iadd hx hb dX6_turn_93 ?_
        refine lv_topi (fun x22 ex22 => ?_)
        have tx22 : x22.toInt = (x19 + x21).toInt := by rw [ex22]
        refine lv_iconst (v := (4 : Int32)) hx hb dX6_turn_94 (by decide) ?_
        refine lv_aload_n hx hb dX6_turn_95 rfl (lv_at hl 0 rfl) ?_
        refine gf_6_3 hx hb hts hin6 hown hK hT k0 hfl21 dX6_turn_96 (fun x23 kx23 fvx23 => ?_)
        refine lv_imul hx hb dX6_turn_99 ?_
        refine lv_topi (fun x24 ex24 => ?_)
        have tx24 : x24.toInt = ((4 : Int32) * x23).toInt := by rw [ex24]
        refine lv_iadd hx hb dX6_turn_100 ?_
        refine lv_topi (fun x25 ex25 => ?_)
        have tx25 : x25.toInt = (x22 + x24).toInt := by rw [ex25]
        refine tw_ias (K := 1006) (n := 6) (P := fun _ => True) hx hb hK hT hS k2 (by decide) rfl rfl (by omega) rfl trivial dX6_turn_101 (fun H locs hT hS hq => ?_)
        refine lv_aload_n hx hb dX6_turn_102 rfl (lv_at hl 2 rfl) ?_
        refine lv_iconst (v := (1 : Int32)) hx hb dX6_turn_103 (by decide) ?_
        refine lv_aload_n hx hb dX6_turn_104 rfl (lv_at hl 2 rfl) ?_
        refine lv_iconst (v := (0 : Int32)) hx hb dX6_turn_105 (by decide) ?_
        refine tw_ia (K := 1006) (n := 6) (P := fun _ => True) hx hb hK hT k2 (by decide) rfl rfl (by omega) rfl dX6_turn_106 (fun x26 _ fvx26 => ?_)
        refine tw_ias (K := 1006) (n := 6) (P := fun _ => True) hx hb hK hT hS k2 (by decide) rfl rfl (by omega) rfl trivial dX6_turn_107 (fun H locs hT hS hq => ?_)
        refine lv_aload_n hx hb dX6_turn_108 rfl (lv_at hl 2 rfl) ?_
        refine lv_iconst (v := (2 : Int32)) hx hb dX6_turn_109 (by decide) ?_
        refine lv_aload_n hx hb dX6_turn_110 rfl (lv_at hl 0 rfl) ?_
        refine gf_6_0 hx hb hts hin6 hown hK hT k0 hfl9 dX6_turn_111 (fun x27 kx27 fvx27 => ?_)
        refine lv_aload_n hx hb dX6_turn_114 rfl (lv_at hl 0 rfl) ?_
        refine gf_6_1 hx hb hts hin6 hown hK hT k0 hfl15 dX6_turn_115 (fun x28 kx28 fvx28 => ?_)
        refine lv_iadd hx hb dX6_turn_118 ?_
        refine lv_topi (fun x29 ex29 => ?_)
        have tx29 : x29.toInt = (x27 + x28).toInt := by rw [ex29]
        refine lv_iconst (v := (2 : Int32)) hx hb dX6_turn_119 (by decide) ?_
        refine lv_aload_n hx hb dX6_turn_120 rfl (lv_at hl 0 rfl) ?_
        refine gf_6_2 hx hb hts hin6 hown hK hT k0 hfl18 dX6_turn_121 (fun x30 kx30 fvx30 => ?_)
        refine lv_imul hx hb dX6_turn_124 ?_
        refine lv_topi (fun x31 ex31 => ?_)
        have tx31 : x31.toInt = ((2 : Int32) * x30).toInt := by rw [ex31]
        refine lv_iadd hx hb dX6_turn_125 ?_
        refine lv_topi (fun x32 ex32 => ?_)
        have tx32 : x32.toInt = (x29 + x31).toInt := by rw [ex32]
        refine lv_iconst (v := (4 : Int32)) hx hb dX6_turn_126 (by decide) ?_
        refine lv_aload_n hx hb dX6_turn_127 rfl (lv_at hl 0 rfl) ?_
        refine gf_6_3 hx hb hts hin6 hown hK hT k0 hfl21 dX6_turn_128 (fun x33 kx33 fvx33 => ?_)
        refine lv_imul hx hb dX6_turn_131 ?_
        refine lv_topi (fun x34 ex34 => ?_)
        have tx34 : x34.toInt = ((4 : Int32) * x33).toInt := by rw [ex34]
        refine lv_isub hx hb dX6_turn_132 ?_
        refine lv_topi (fun x35 ex35 => ?_)
        have tx35 : x35.toInt = (x32 - x34).toInt := by rw [ex35]
        refine tw_ias (K := 1006) (n := 6) (P := fun _ => True) hx hb hK hT hS k2 (by decide) rfl rfl (by omega) rfl trivial dX6_turn_133 (fun H locs hT hS hq => ?_)
        refine lv_aload_n hx hb dX6_turn_134 rfl (lv_at hl 2 rfl) ?_
        refine lv_iconst (v := (3 : Int32)) hx hb dX6_turn_135 (by decide) ?_
        refine lv_aload_n hx hb dX6_turn_136 rfl (lv_at hl 0 rfl) ?_
        refine gf_6_0 hx hb hts hin6 hown hK hT k0 hfl9 dX6_turn_137 (fun x36 kx36 fvx36 => ?_)
        refine lv_aload_n hx hb dX6_turn_140 rfl (lv_at hl 0 rfl) ?_
        refine gf_6_1 hx hb hts hin6 hown hK hT k0 hfl15 dX6_turn_141 (fun x37 kx37 fvx37 => ?_)
        refine lv_iadd hx hb dX6_turn_144 ?_
        refine lv_topi (fun x38 ex38 => ?_)
        have tx38 : x38.toInt = (x36 + x37).toInt := by rw [ex38]
        refine lv_iconst (v := (2 : Int32)) hx hb dX6_turn_145 (by decide) ?_
        refine lv_aload_n hx hb dX6_turn_146 rfl (lv_at hl 0 rfl) ?_
        refine gf_6_2 hx hb hts hin6 hown hK hT k0 hfl18 dX6_turn_147 (fun x39 kx39 fvx39 => ?_)
        refine lv_imul hx hb dX6_turn_150 ?_
        refine lv_topi (fun x40 ex40 => ?_)
        have tx40 : x40.toInt = ((2 : Int32) * x39).toInt := by rw [ex40]
        refine lv_isub hx hb dX6_turn_151 ?_
        refine lv_topi (fun x41 ex41 => ?_)
        have tx41 : x41.toInt = (x38 - x40).toInt := by rw [ex41]
        refine tw_ias (K := 1006) (n := 6) (P := fun _ => True) hx hb hK hT hS k2 (by decide) rfl rfl (by omega) rfl trivial dX6_turn_152 (fun H locs hT hS hq => ?_)
        refine lv_aload_n hx hb dX6_turn_153 rfl (lv_at hl 2 rfl) ?_
        refine lv_iconst (v := (4 : Int32)) hx hb dX6_turn_154 (by decide) ?_
        refine lv_iload_n hx hb dX6_turn_155 rfl (lv_at hl 1 rfl) ?_
        refine lv_iconst (v := (2 : Int32)) hx hb dX6_turn_156 (by decide) ?_
        have J181 : ∀ (H : Heap) (locs : List Loc) (ls : Array Slot) (x42 : Int32), (TW D cy κ G H) → (va_S (AA κ) s.heap H locs) → (lv_has ls 3 [(0, .ref p0), (1, .int p1), (2, .ref p2)]) → W p l e rmX6_turn s m args below meth c H locs 0 0 Q (F0 m 181 ls [.int x42, .int (4 : Int32), .ref p2]) := by
          intro H locs ls x42 hT hS hl 
          refine tw_ias (K := 1006) (n := 6) (P := fun _ => True) hx hb hK hT hS k2 (by decide) rfl rfl (by omega) rfl trivial dX6_turn_181 (fun H locs hT hS hq => ?_)
          refine lv_aload_n hx hb dX6_turn_182 rfl (lv_at hl 2 rfl) ?_
          refine lv_iconst (v := (5 : Int32)) hx hb dX6_turn_183 (by decide) ?_
          refine lv_aload_n hx hb dX6_turn_184 rfl (lv_at hl 2 rfl) ?_
          refine lv_iconst (v := (4 : Int32)) hx hb dX6_turn_185 (by decide) ?_
          refine tw_ia (K := 1006) (n := 6) (P := fun _ => True) hx hb hK hT k2 (by decide) rfl rfl (by omega) rfl dX6_turn_186 (fun x43 _ fvx43 => ?_)
          refine tw_ias (K := 1006) (n := 6) (P := fun _ => True) hx hb hK hT hS k2 (by decide) rfl rfl (by omega) rfl trivial dX6_turn_187 (fun H locs hT hS hq => ?_)
          exact hret H locs ls 188 G dX6_turn_188 ⟨rfl, trivial⟩ hT hS
        refine tb_icmp_ne (tgt := 172) hx hb dX6_turn_157 (by decide) (fun c44 => ?_) (fun c44 => ?_)
        · skip
          refine lv_aload_n hx hb dX6_turn_172 rfl (lv_at hl 0 rfl) ?_
          refine gf_6_1 hx hb hts hin6 hown hK hT k0 hfl15 dX6_turn_173 (fun x45 kx45 fvx45 => ?_)
          refine lv_aload_n hx hb dX6_turn_176 rfl (lv_at hl 0 rfl) ?_
          refine gf_6_0 hx hb hts hin6 hown hK hT k0 hfl9 dX6_turn_177 (fun x46 kx46 fvx46 => ?_)
          refine lv_isub hx hb dX6_turn_180 ?_
          refine lv_topi (fun x47 ex47 => ?_)
          have tx47 : x47.toInt = (x45 - x46).toInt := by rw [ex47]
          exact J181 H locs ls x47 hT hS (lv_sub hl [0, 1, 2] rfl) 
        · skip
          refine lv_aload_n hx hb dX6_turn_160 rfl (lv_at hl 0 rfl) ?_
          refine gf_6_0 hx hb hts hin6 hown hK hT k0 hfl9 dX6_turn_161 (fun x48 kx48 fvx48 => ?_)
          refine lv_aload_n hx hb dX6_turn_164 rfl (lv_at hl 0 rfl) ?_
          refine gf_6_1 hx hb hts hin6 hown hK hT k0 hfl15 dX6_turn_165 (fun x49 kx49 fvx49 => ?_)
          refine lv_isub hx hb dX6_turn_168 ?_
          refine lv_topi (fun x50 ex50 => ?_)
          have tx50 : x50.toInt = (x48 - x49).toInt := by rw [ex50]
          refine lv_goto (tgt := 181) hx hb dX6_turn_169 (by decide) ?_
          exact J181 H locs ls x50 hT hS (lv_sub hl [0, 1, 2] rfl) 
      · skip
        exact J9 H locs ls  hT hS (lv_sub hl [0, 1, 2] rfl) 
  exact main s.heap [] hT va_S.rf

abbrev rmX9_become : Room := { frames := 1, cells := 0, slots := 0, locals := 23 }
set_option maxHeartbeats 4000000 in
set_option maxRecDepth 100000 in
theorem c_X9_become (l : Launch) (D : va_G) (cy : Nat → ClassId) (κ : Nat → Nat) (G : Gh) (p0 : Nat) (k0 : κ p0 = 10) (p1 : Int32) (p2 : Int32) (p3 : Int32) (p4 : Int32) : Met l yX9_become wsX9_become rmX9_become (va_Pc [.ref p0, .int p1, .int p2, .int p3, .int p4] (fun U => WW D cy κ G U)) (va_Qv (fun u : Gh => u = G ∧ (True)) (fun u t => WW D cy κ u t) (AA κ)) 0 0 (AA κ) := by
  refine Met.twv (cc := cX9_become) (maxL := 5) (by decide) rfl (Nat.le_of_ble_eq_true rfl) ?_
  intro p e s m args below meth c Q hx hb hml hown hts hK hT hret ls hl
  have hl : lv_has ls 5 [(0, .ref p0), (1, .int p1), (2, .int p2), (3, .int p3), (4, .int p4)] := hl
  have hfl9 := hts (.fieldLink RX9 9 "PlyPlates$Stuff" "q11" "I") (by decide +kernel)
  have hin9 : ∀ w ∈ u_ws RX9 TX9 7, w ∈ wsX9_become := by decide +kernel
  have hfl15 := hts (.fieldLink RX9 15 "PlyPlates$Stuff" "q22" "I") (by decide +kernel)
  have hfl18 := hts (.fieldLink RX9 18 "PlyPlates$Stuff" "q12" "I") (by decide +kernel)
  have hfl21 := hts (.fieldLink RX9 21 "PlyPlates$Stuff" "q66" "I") (by decide +kernel)
  have hfl30 := hts (.fieldLink RX9 30 "PlyPlates$Stuff" "strengths" "[I") (by decide +kernel)
  have hc100 : (100 : Int32).toInt = 100 := rfl
  have main : ∀ (H : Heap) (locs : List Loc), TW D cy κ G H → va_S (AA κ) s.heap H locs → W p l e rmX9_become s m args below meth c H locs 0 0 Q (F0 m 0 ls []) := by
    intro H locs hT hS
    refine lv_aload_n hx hb dX9_become_0 rfl (lv_at hl 0 rfl) ?_
    refine lv_iload_n hx hb dX9_become_1 rfl (lv_at hl 1 rfl) ?_
    refine pf_9_0 hx hb hts hin9 hown hK hT hS k0 hfl9 dX9_become_2 (fun H locs hT hS => ?_)
    refine lv_aload_n hx hb dX9_become_5 rfl (lv_at hl 0 rfl) ?_
    refine lv_iload_n hx hb dX9_become_6 rfl (lv_at hl 2 rfl) ?_
    refine pf_9_1 hx hb hts hin9 hown hK hT hS k0 hfl15 dX9_become_7 (fun H locs hT hS => ?_)
    refine lv_aload_n hx hb dX9_become_10 rfl (lv_at hl 0 rfl) ?_
    refine lv_iload_n hx hb dX9_become_11 rfl (lv_at hl 3 rfl) ?_
    refine pf_9_2 hx hb hts hin9 hown hK hT hS k0 hfl18 dX9_become_12 (fun H locs hT hS => ?_)
    refine lv_aload_n hx hb dX9_become_15 rfl (lv_at hl 0 rfl) ?_
    refine lv_iload hx hb dX9_become_16 (lv_at hl 4 rfl) ?_
    refine pf_9_3 hx hb hts hin9 hown hK hT hS k0 hfl21 dX9_become_18 (fun H locs hT hS => ?_)
    refine lv_aload_n hx hb dX9_become_21 rfl (lv_at hl 0 rfl) ?_
    refine gf_9_6 hx hb hts hin9 hown hK hT k0 hfl30 dX9_become_22 (fun a1 ka1 fva1 => ?_)
    refine lv_bipush (v := (100 : Int32)) hx hb dX9_become_25 (by decide) ?_
    refine tw_Sv (As := [.ref a1, .int (100 : Int32)]) (rest := []) ⟨hx, hb, hml, hown, hts⟩ (c_J7_fill_53178_1005 l D cy κ G a1 ka1 (100 : Int32)) (va_cwS 2 hts gX9_become_J7_fill_53178 rfl rfl rfl (by decide +kernel) ⟨Nat.le_of_ble_eq_true rfl, Nat.le_of_ble_eq_true rfl⟩) hK hT hS rfl hl.1 rfl (Nat.le_of_ble_eq_true rfl) dX9_become_27 ⟨Nat.zero_le _, Nat.zero_le _⟩ (fun u3 H locs hpu3 hT hS => ?_)
    obtain ⟨huu3, qu3⟩ := hpu3
    rw [huu3] at hT
    exact hret H locs ls 30 G dX9_become_30 ⟨rfl, trivial⟩ hT hS
  exact main s.heap [] hT va_S.rf
