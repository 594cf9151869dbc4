set_option maxHeartbeats 4000000 in
set_option maxRecDepth 100000 in
theorem law_loop {p : Program} {l : Launch} {e : Env} {s : State} {m : MethodId} {below : List Frame} {meth : Method} {c : Code} {b L : Nat} {xs : Nat → Int32} {cells slots : Nat} {Q : State → Prop} {D : va_G} {cy : Nat → ClassId} {κ : Nat → Nat} {q0 q1 : Nat} (hx : p.tables.exec = Jvm.exec) (hb : c.code = cL_law) (hml : c.maxLocals = 4) (hown : s.vm.findClass RL = some m.cls) (hts : ∀ w ∈ lw_tbl, w.before #[Value.ref b] s = true) (hX : va_X b L xs s s.heap) (hbl : b < s.heap.size) (hK : KK D cy s) (kx : κ q0 = 11) (km : κ q1 = 12) (hκ : ∀ q, κ q ≠ 0 → (fun q : Nat => s.heap.size ≤ q) q) (hc : cells ≤ 600000 ∧ slots ≤ 7302250)  (hL : L ≤ 3584)
    (kret : ∀ (H1 : Heap) (locs1 : List Loc) (ls : Array Slot), va_S (fun q : Nat => s.heap.size ≤ q) s.heap H1 locs1 → W p l e room_1 s m #[Value.ref b] below meth c H1 locs1 cells slots Q (F0 m 1232 ls [])) :
    ∀ (nn : Nat) (g : Gh) (H : Heap) (locs : List Loc) (ls : Array Slot) (x3 : Int32), nn = (2147483647 - x3.toInt).toNat → EQ g → TW D cy κ g H → va_S (fun q : Nat => s.heap.size ≤ q) s.heap H locs → lv_has ls 4 [(3, .int x3), (2, .ref q1), (1, .ref q0), (0, .ref b)] → 0 ≤ x3.toInt → W p l e room_1 s m #[Value.ref b] below meth c H locs cells slots Q (F0 m 18 ls []) := by
  have hbA : ¬ (fun q : Nat => s.heap.size ≤ q) b := Nat.not_le.mpr hbl
  have hc7 : (7 : Int32).toInt = 7 := rfl
  have hLn : (nI L).toInt = (L : Int) := nI_toInt (by omega)
  intro nn
  induction nn using Nat.strongRecOn with
  | _ nn ih =>
    intro g H locs ls x3 hnn hE hT hS hl h0
    refine lv_iload_n hx hb dL_law_18 rfl (lv_at hl 0 rfl) ?_
    refine lv_aload_n hx hb dL_law_19 rfl (lv_at hl 3 rfl) ?_
    refine va_slen hx hb hX hbl hbA hS dL_law_20 ?_
    refine lv_bipush (v := (7 : Int32)) hx hb dL_law_21 (by decide) ?_
    refine lv_isub hx hb dL_law_23 ?_
    refine lv_topi (fun x5 e5 => ?_)
    have t5 : x5.toInt = (L : Int) - 7 := by
      rw [e5]
      have q := ti_sub (x := nI L) (y := 7) (by rw [hLn, hc7]; omega)
      rw [hLn, hc7] at q
      exact q
    refine tb_icmp_gt (tgt := 1232) hx hb dL_law_24 (by decide) (fun c6 => ?_) (fun c6 => ?_)
    · exact kret H locs ls hS
    · have h3 : 0 ≤ x3.toInt ∧ x3.toInt + 7 ≤ (L : Int) := by omega
      refine lv_aload_n hx hb dL_law_27 rfl (lv_at hl 3 rfl) ?_
      refine lv_iload_n hx hb dL_law_28 rfl (lv_at hl 0 rfl) ?_
      refine va_sld hx hb hX hbl hbA hS (vin (by omega)) dL_law_29 ?_
      refine lv_topi (fun x7 _ => ?_)
      refine lv_bipush (v := (31 : Int32)) hx hb dL_law_30 (by decide) ?_
      refine lv_iand hx hb dL_law_32 ?_
      refine lv_topi (fun x8 e8 => ?_)
      have t8 : 0 ≤ x8.toInt ∧ x8.toInt ≤ 31 := by rw [e8]; exact ti_and31 x7
      have kend : ∀ (g1 : Gh) (H1 : Heap) (locs1 : List Loc), EQ g1 → TW D cy κ g1 H1 → va_S (fun q : Nat => s.heap.size ≤ q) s.heap H1 locs1 → W p l e room_1 s m #[Value.ref b] below meth c H1 locs1 cells slots Q (F0 m 1226 ls []) := by
        intro g1 H1 locs1 hE hT hS
        obtain ⟨x9, e9⟩ : ∃ z : Int32, z = x3 + (7 : Int32) := ⟨_, rfl⟩
        refine lv_iinc (v := x9) (lv' := [(3, .int x9), (2, .ref q1), (1, .ref q0), (0, .ref b)]) hx hb dL_law_1226 hl (k := 0) rfl (by rw [e9]; rfl) (by decide) rfl (fun ls hl => ?_)
        have t9 : x9.toInt = x3.toInt + 7 := by rw [e9, ti_add (by omega), hc7]
        refine lv_goto (tgt := 18) hx hb dL_law_1229 (by decide) ?_
        exact ih ((2147483647 - x9.toInt).toNat) (by omega) g1 H1 locs1 ls x9 rfl hE hT hS hl (by omega)
      rcases (show x8.toInt = 0 ∨ x8.toInt = 1 ∨ x8.toInt = 2 ∨ x8.toInt = 3 ∨ x8.toInt = 4 ∨ x8.toInt = 5 ∨ x8.toInt = 6 ∨ x8.toInt = 7 ∨ x8.toInt = 8 ∨ x8.toInt = 9 ∨ x8.toInt = 10 ∨ x8.toInt = 11 ∨ x8.toInt = 12 ∨ x8.toInt = 13 ∨ x8.toInt = 14 ∨ x8.toInt = 15 ∨ x8.toInt = 16 ∨ x8.toInt = 17 ∨ x8.toInt = 18 ∨ x8.toInt = 19 ∨ x8.toInt = 20 ∨ x8.toInt = 21 ∨ x8.toInt = 22 ∨ x8.toInt = 23 ∨ x8.toInt = 24 ∨ x8.toInt = 25 ∨ x8.toInt = 26 ∨ x8.toInt = 27 ∨ 27 < x8.toInt by omega) with c9 | c9 | c9 | c9 | c9 | c9 | c9 | c9 | c9 | c9 | c9 | c9 | c9 | c9 | c9 | c9 | c9 | c9 | c9 | c9 | c9 | c9 | c9 | c9 | c9 | c9 | c9 | c9 | c9
      · refine lv_tableIn (off := 127) (tgt := 160) hx hb dL_law_33 (by omega) (by omega) (by rw [c9]; rfl) (by decide) ?_
        exact law_c0 hx hb hml hown hts hX hbl hK kx km hκ hc hE hT hS hl h3 hL kend
      · refine lv_tableIn (off := 180) (tgt := 213) hx hb dL_law_33 (by omega) (by omega) (by rw [c9]; rfl) (by decide) ?_
        exact law_c1 hx hb hml hown hts hX hbl hK kx km hκ hc hE hT hS hl h3 hL kend
      · refine lv_tableIn (off := 223) (tgt := 256) hx hb dL_law_33 (by omega) (by omega) (by rw [c9]; rfl) (by decide) ?_
        exact law_c2 hx hb hml hown hts hX hbl hK kx km hκ hc hE hT hS hl h3 hL kend
      · refine lv_tableIn (off := 266) (tgt := 299) hx hb dL_law_33 (by omega) (by omega) (by rw [c9]; rfl) (by decide) ?_
        exact law_c3 hx hb hml hown hts hX hbl hK kx km hκ hc hE hT hS hl h3 hL kend
      · refine lv_tableIn (off := 279) (tgt := 312) hx hb dL_law_33 (by omega) (by omega) (by rw [c9]; rfl) (by decide) ?_
        exact law_c4 hx hb hml hown hts hX hbl hK kx km hκ hc hE hT hS hl h3 hL kend
      · refine lv_tableIn (off := 332) (tgt := 365) hx hb dL_law_33 (by omega) (by omega) (by rw [c9]; rfl) (by decide) ?_
        exact law_c5 hx hb hml hown hts hX hbl hK kx km hκ hc hE hT hS hl h3 hL kend
      · refine lv_tableIn (off := 355) (tgt := 388) hx hb dL_law_33 (by omega) (by omega) (by rw [c9]; rfl) (by decide) ?_
        exact law_c6 hx hb hml hown hts hX hbl hK kx km hκ hc hE hT hS hl h3 hL kend
      · refine lv_tableIn (off := 398) (tgt := 431) hx hb dL_law_33 (by omega) (by omega) (by rw [c9]; rfl) (by decide) ?_
        exact law_c7 hx hb hml hown hts hX hbl hK kx km hκ hc hE hT hS hl h3 hL kend
      · refine lv_tableIn (off := 441) (tgt := 474) hx hb dL_law_33 (by omega) (by omega) (by rw [c9]; rfl) (by decide) ?_
        exact law_c8 hx hb hml hown hts hX hbl hK kx km hκ hc hE hT hS hl h3 hL kend
      · refine lv_tableIn (off := 484) (tgt := 517) hx hb dL_law_33 (by omega) (by omega) (by rw [c9]; rfl) (by decide) ?_
        exact law_c9 hx hb hml hown hts hX hbl hK kx km hκ hc hE hT hS hl h3 hL kend
      · refine lv_tableIn (off := 507) (tgt := 540) hx hb dL_law_33 (by omega) (by omega) (by rw [c9]; rfl) (by decide) ?_
        exact law_c10 hx hb hml hown hts hX hbl hK kx km hκ hc hE hT hS hl h3 hL kend
      · refine lv_tableIn (off := 530) (tgt := 563) hx hb dL_law_33 (by omega) (by omega) (by rw [c9]; rfl) (by decide) ?_
        exact law_c11 hx hb hml hown hts hX hbl hK kx km hκ hc hE hT hS hl h3 hL kend
      · refine lv_tableIn (off := 553) (tgt := 586) hx hb dL_law_33 (by omega) (by omega) (by rw [c9]; rfl) (by decide) ?_
        exact law_c12 hx hb hml hown hts hX hbl hK kx km hκ hc hE hT hS hl h3 hL kend
      · refine lv_tableIn (off := 628) (tgt := 661) hx hb dL_law_33 (by omega) (by omega) (by rw [c9]; rfl) (by decide) ?_
        exact law_c13 hx hb hml hown hts hX hbl hK kx km hκ hc hE hT hS hl h3 hL kend
      · refine lv_tableIn (off := 681) (tgt := 714) hx hb dL_law_33 (by omega) (by omega) (by rw [c9]; rfl) (by decide) ?_
        exact law_c14 hx hb hml hown hts hX hbl hK kx km hκ hc hE hT hS hl h3 hL kend
      · refine lv_tableIn (off := 734) (tgt := 767) hx hb dL_law_33 (by omega) (by omega) (by rw [c9]; rfl) (by decide) ?_
        exact law_c15 hx hb hml hown hts hX hbl hK kx km hκ hc hE hT hS hl h3 hL kend
      · refine lv_tableIn (off := 787) (tgt := 820) hx hb dL_law_33 (by omega) (by omega) (by rw [c9]; rfl) (by decide) ?_
        exact law_c16 hx hb hml hown hts hX hbl hK kx km hκ hc hE hT hS hl h3 hL kend
      · refine lv_tableIn (off := 850) (tgt := 883) hx hb dL_law_33 (by omega) (by omega) (by rw [c9]; rfl) (by decide) ?_
        exact law_c17 hx hb hml hown hts hX hbl hK kx km hκ hc hE hT hS hl h3 hL kend
      · refine lv_tableIn (off := 903) (tgt := 936) hx hb dL_law_33 (by omega) (by omega) (by rw [c9]; rfl) (by decide) ?_
        exact law_c18 hx hb hml hown hts hX hbl hK kx km hκ hc hE hT hS hl h3 hL kend
      · refine lv_tableIn (off := 936) (tgt := 969) hx hb dL_law_33 (by omega) (by omega) (by rw [c9]; rfl) (by decide) ?_
        exact law_c19 hx hb hml hown hts hX hbl hK kx km hκ hc hE hT hS hl h3 hL kend
      · refine lv_tableIn (off := 949) (tgt := 982) hx hb dL_law_33 (by omega) (by omega) (by rw [c9]; rfl) (by decide) ?_
        exact law_c20 hx hb hml hown hts hX hbl hK kx km hκ hc hE hT hS hl h3 hL kend
      · refine lv_tableIn (off := 992) (tgt := 1025) hx hb dL_law_33 (by omega) (by omega) (by rw [c9]; rfl) (by decide) ?_
        exact law_c21 hx hb hml hown hts hX hbl hK kx km hκ hc hE hT hS hl h3 hL kend
      · refine lv_tableIn (off := 1015) (tgt := 1048) hx hb dL_law_33 (by omega) (by omega) (by rw [c9]; rfl) (by decide) ?_
        exact law_c22 hx hb hml hown hts hX hbl hK kx km hκ hc hE hT hS hl h3 hL kend
      · refine lv_tableIn (off := 1058) (tgt := 1091) hx hb dL_law_33 (by omega) (by omega) (by rw [c9]; rfl) (by decide) ?_
        exact law_c23 hx hb hml hown hts hX hbl hK kx km hκ hc hE hT hS hl h3 hL kend
      · refine lv_tableIn (off := 1071) (tgt := 1104) hx hb dL_law_33 (by omega) (by omega) (by rw [c9]; rfl) (by decide) ?_
        exact law_c24 hx hb hml hown hts hX hbl hK kx km hκ hc hE hT hS hl h3 hL kend
      · refine lv_tableIn (off := 1104) (tgt := 1137) hx hb dL_law_33 (by omega) (by omega) (by rw [c9]; rfl) (by decide) ?_
        exact law_c25 hx hb hml hown hts hX hbl hK kx km hκ hc hE hT hS hl h3 hL kend
      · refine lv_tableIn (off := 1137) (tgt := 1170) hx hb dL_law_33 (by omega) (by omega) (by rw [c9]; rfl) (by decide) ?_
        exact law_c26 hx hb hml hown hts hX hbl hK kx km hκ hc hE hT hS hl h3 hL kend
      · refine lv_tableIn (off := 1170) (tgt := 1203) hx hb dL_law_33 (by omega) (by omega) (by rw [c9]; rfl) (by decide) ?_
        exact law_c27 hx hb hml hown hts hX hbl hK kx km hκ hc hE hT hS hl h3 hL kend
      · refine lv_tableOut (tgt := 1226) hx hb dL_law_33 (Or.inr c9) (by decide) ?_
        exact kend g H locs hE hT hS
