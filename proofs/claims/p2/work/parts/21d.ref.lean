abbrev rmX11_stress : Room := { frames := 1, cells := 0, slots := 0, locals := 23 }
set_option maxHeartbeats 4000000 in
set_option maxRecDepth 100000 in
theorem c_X11_stress (l : Launch) (D : va_G) (cy : Nat → ClassId) (κ : Nat → Nat) (G : Gh) (p0 : Nat) (k0 : κ p0 = 12) (p1 : Int32) (q1 : 0 ≤ p1.toInt ∧ p1.toInt ≤ 59) (p2 : Int32) : Met l yX11_stress wsX11_stress rmX11_stress (va_Pc [.ref p0, .int p1, .int p2] (fun U => WW D cy κ G U)) (va_Ql (fun (r : Int64) (u : Gh) => u = G ∧ (((G.1 (200 + p1.toInt.toNat)).toInt ≠ 2 ∧ ((G.1 (200 + p1.toInt.toNat)).toInt ≠ 1 ∨ p2.toInt ≤ 0) ∨ r.toInt = 0))) (fun u t => WW D cy κ u t) (AA κ)) 0 0 (AA κ) := by
  refine Met.twl (cc := cX11_stress) (maxL := 9) (by decide) rfl (Nat.le_of_ble_eq_true rfl) ?_
  intro p e s m args below meth c Q hx hb hml hown hts hK hT hret ls hl
  have hl : lv_has ls 9 [(0, .ref p0), (1, .int p1), (2, .int p2)] := hl
  have hfl41 := hts (.fieldLink RX11 41 "PlyPlatesModel" "way" "[I") (by decide +kernel)
  have hin11 : ∀ w ∈ u_ws RX11 TX11 31, w ∈ wsX11_stress := by decide +kernel
  have hc1 : (1 : Int32).toInt = 1 := rfl
  have hc3 : (3 : Int32).toInt = 3 := rfl
  have hc2 : (2 : Int32).toInt = 2 := rfl
  have hc0 : (0 : Int32).toInt = 0 := rfl
  have hkl156 := hts (.constantLong RX11 156 (2)) (by decide +kernel)
  have hlk156 : (2 : Int64).toInt = 2 := rfl
  have hfl124 := hts (.fieldLink RX11 124 "PlyPlatesModel" "ex" "J") (by decide +kernel)
  have hfl127 := hts (.fieldLink RX11 127 "PlyPlatesModel" "ey" "J") (by decide +kernel)
  have hkl158 := hts (.constantLong RX11 158 (-2)) (by decide +kernel)
  have hlk158 : (-2 : Int64).toInt = -2 := rfl
  have hfl130 := hts (.fieldLink RX11 130 "PlyPlatesModel" "es" "J") (by decide +kernel)
  have main : ∀ (H : Heap) (locs : List Loc), TW D cy κ G H → va_S (AA κ) s.heap H locs → W p l e rmX11_stress s m args below meth c H locs 0 0 Q (F0 m 0 ls []) := by
    intro H locs hT hS
    refine lv_aload_n hx hb dX11_stress_0 rfl (lv_at hl 0 rfl) ?_
    refine gf_11_15 hx hb hts hin11 hown hK hT k0 hfl41 dX11_stress_1 (fun a1 ka1 fva1 => ?_)
    refine lv_iload_n hx hb dX11_stress_4 rfl (lv_at hl 1 rfl) ?_
    refine tw_ia (K := 1060) (n := 60) (P := fun _ => True) hx hb hK hT ka1 (by decide) rfl rfl (by omega) rfl dX11_stress_5 (fun x2 _ fvx2 => ?_)
    have J82 : ∀ (H : Heap) (locs : List Loc) (ls : Array Slot) (y3 : Int64), (TW D cy κ G H) → (va_S (AA κ) s.heap H locs) → (lv_has ls 9 [(0, .ref p0), (1, .int p1), (2, .int p2)]) → W p l e rmX11_stress s m args below meth c H locs 0 0 Q (F0 m 82 ls [.long y3]) := by
      intro H locs ls y3 hT hS hl 
      refine lv_lstore_n (lv' := [(3, .long y3), (0, .ref p0), (1, .int p1), (2, .int p2)]) hx hb dX11_stress_82 rfl hl (by decide) rfl (fun ls hl => ?_)
      refine lv_aload_n hx hb dX11_stress_83 rfl (lv_at hl 1 rfl) ?_
      refine gf_11_15 hx hb hts hin11 hown hK hT k0 hfl41 dX11_stress_84 (fun a4 ka4 fva4 => ?_)
      refine lv_iload_n hx hb dX11_stress_87 rfl (lv_at hl 2 rfl) ?_
      refine tw_ia (K := 1060) (n := 60) (P := fun _ => True) hx hb hK hT ka4 (by decide) rfl rfl (by omega) rfl dX11_stress_88 (fun x5 _ fvx5 => ?_)
      have J165 : ∀ (H : Heap) (locs : List Loc) (ls : Array Slot) (y6 : Int64), (TW D cy κ G H) → (va_S (AA κ) s.heap H locs) → (lv_has ls 9 [(3, .long y3), (0, .ref p0), (1, .int p1), (2, .int p2)]) → W p l e rmX11_stress s m args below meth c H locs 0 0 Q (F0 m 165 ls [.long y6]) := by
        intro H locs ls y6 hT hS hl 
        refine lv_lstore (lv' := [(5, .long y6), (3, .long y3), (0, .ref p0), (1, .int p1), (2, .int p2)]) hx hb dX11_stress_165 hl (by decide) rfl (fun ls hl => ?_)
        refine lv_aload_n hx hb dX11_stress_167 rfl (lv_at hl 2 rfl) ?_
        refine gf_11_15 hx hb hts hin11 hown hK hT k0 hfl41 dX11_stress_168 (fun a7 ka7 fva7 => ?_)
        refine lv_iload_n hx hb dX11_stress_171 rfl (lv_at hl 3 rfl) ?_
        refine tw_ia (K := 1060) (n := 60) (P := fun _ => True) hx hb hK hT ka7 (by decide) rfl rfl (by omega) rfl dX11_stress_172 (fun x8 _ fvx8 => ?_)
        have J255 : ∀ (H : Heap) (locs : List Loc) (ls : Array Slot) (y9 : Int64), (TW D cy κ G H) → (va_S (AA κ) s.heap H locs) → (lv_has ls 9 [(5, .long y6), (3, .long y3), (0, .ref p0), (1, .int p1), (2, .int p2)]) → W p l e rmX11_stress s m args below meth c H locs 0 0 Q (F0 m 255 ls [.long y9]) := by
          intro H locs ls y9 hT hS hl 
          refine lv_lstore (lv' := [(7, .long y9), (5, .long y6), (3, .long y3), (0, .ref p0), (1, .int p1), (2, .int p2)]) hx hb dX11_stress_255 hl (by decide) rfl (fun ls hl => ?_)
          refine lv_iload_n hx hb dX11_stress_257 rfl (lv_at hl 5 rfl) ?_
          refine tb_if_ne (tgt := 284) hx hb dX11_stress_258 (by decide) (fun c10 => ?_) (fun c10 => ?_)
          · skip
            refine lv_iload_n hx hb dX11_stress_284 rfl (lv_at hl 5 rfl) ?_
            refine lv_iconst (v := (1 : Int32)) hx hb dX11_stress_285 (by decide) ?_
            refine tb_icmp_ne (tgt := 312) hx hb dX11_stress_286 (by decide) (fun c11 => ?_) (fun c11 => ?_)
            · skip
              refine lv_aload_n hx hb dX11_stress_312 rfl (lv_at hl 3 rfl) ?_
              refine lv_iload_n hx hb dX11_stress_313 rfl (lv_at hl 4 rfl) ?_
              refine lv_iconst (v := (3 : Int32)) hx hb dX11_stress_314 (by decide) ?_
              refine tw_Vi (q := (RX11, TX11, 31)) (As := [.int p1, .int (3 : Int32)]) (rest := []) ⟨hx, hb, hml, hown, hts⟩ (c_X11_left l D cy κ G p0 k0 p1 (by omega) (3 : Int32)) (cwV 2 hts gX11_stress_X11_left rfl rfl rfl (by decide +kernel) ⟨Nat.le_of_ble_eq_true rfl, Nat.le_of_ble_eq_true rfl⟩) hK hT hS k0 (by decide) rfl rfl hl.1 rfl (Nat.le_of_ble_eq_true rfl) dX11_stress_315 ⟨Nat.zero_le _, Nat.zero_le _⟩ (fun x12 u13 H locs hpu13 hT hS => ?_)
              obtain ⟨huu13, qu13⟩ := hpu13
              rw [huu13] at hT
              refine lv_i2l hx hb dX11_stress_318 rfl ?_
              refine lv_topl (fun y14 ey14 => ?_)
              have ty14 : y14.toInt = x12.toInt := by rw [ey14]; exact Int32.toInt_toInt64 x12
              refine lv_lload hx hb dX11_stress_319 (lv_at hl 0 rfl) ?_
              refine lv_lmul hx hb dX11_stress_321 ?_
              refine lv_topl (fun y15 ey15 => ?_)
              have ty15 := mul0 ey15
              exact hret H locs ls 322 y15 G dX11_stress_322 ⟨rfl, by omega⟩ hT hS
            · skip
              refine lv_aload_n hx hb dX11_stress_289 rfl (lv_at hl 3 rfl) ?_
              refine lv_iload_n hx hb dX11_stress_290 rfl (lv_at hl 4 rfl) ?_
              refine lv_iconst (v := (2 : Int32)) hx hb dX11_stress_291 (by decide) ?_
              refine tw_Vi (q := (RX11, TX11, 31)) (As := [.int p1, .int (2 : Int32)]) (rest := []) ⟨hx, hb, hml, hown, hts⟩ (c_X11_left l D cy κ G p0 k0 p1 (by omega) (2 : Int32)) (cwV 2 hts gX11_stress_X11_left rfl rfl rfl (by decide +kernel) ⟨Nat.le_of_ble_eq_true rfl, Nat.le_of_ble_eq_true rfl⟩) hK hT hS k0 (by decide) rfl rfl hl.1 rfl (Nat.le_of_ble_eq_true rfl) dX11_stress_292 ⟨Nat.zero_le _, Nat.zero_le _⟩ (fun x16 u17 H locs hpu17 hT hS => ?_)
              obtain ⟨huu17, qu17⟩ := hpu17
              rw [huu17] at hT
              refine lv_i2l hx hb dX11_stress_295 rfl ?_
              refine lv_topl (fun y18 ey18 => ?_)
              have ty18 : y18.toInt = x16.toInt := by rw [ey18]; exact Int32.toInt_toInt64 x16
              refine lv_lload_n hx hb dX11_stress_296 rfl (lv_at hl 2 rfl) ?_
              refine lv_lmul hx hb dX11_stress_297 ?_
              refine lv_topl (fun y19 ey19 => ?_)
              have ty19 := mul0 ey19
              refine lv_aload_n hx hb dX11_stress_298 rfl (lv_at hl 3 rfl) ?_
              refine lv_iload_n hx hb dX11_stress_299 rfl (lv_at hl 4 rfl) ?_
              refine lv_iconst (v := (1 : Int32)) hx hb dX11_stress_300 (by decide) ?_
              refine tw_Vi (q := (RX11, TX11, 31)) (As := [.int p1, .int (1 : Int32)]) (rest := [.long y19]) ⟨hx, hb, hml, hown, hts⟩ (c_X11_left l D cy κ G p0 k0 p1 (by omega) (1 : Int32)) (cwV 2 hts gX11_stress_X11_left rfl rfl rfl (by decide +kernel) ⟨Nat.le_of_ble_eq_true rfl, Nat.le_of_ble_eq_true rfl⟩) hK hT hS k0 (by decide) rfl rfl hl.1 rfl (Nat.le_of_ble_eq_true rfl) dX11_stress_301 ⟨Nat.zero_le _, Nat.zero_le _⟩ (fun x20 u21 H locs hpu21 hT hS => ?_)
              obtain ⟨huu21, qu21⟩ := hpu21
              rw [huu21] at hT
              refine lv_i2l hx hb dX11_stress_304 rfl ?_
              refine lv_topl (fun y22 ey22 => ?_)
              have ty22 : y22.toInt = x20.toInt := by rw [ey22]; exact Int32.toInt_toInt64 x20
              refine lv_lload hx hb dX11_stress_305 (lv_at hl 1 rfl) ?_
              refine lv_lmul hx hb dX11_stress_307 ?_
              refine lv_topl (fun y23 ey23 => ?_)
              have ty23 := mul0 ey23
              refine lv_ladd hx hb dX11_stress_308 ?_
              refine lv_topl (fun y24 ey24 => ?_)
              have ty24 := add0 ey24
              refine lv_goto (tgt := 322) hx hb dX11_stress_309 (by decide) ?_
              exact hret H locs ls 322 y24 G dX11_stress_322 ⟨rfl, by omega⟩ hT hS
          · skip
            refine lv_aload_n hx hb dX11_stress_261 rfl (lv_at hl 3 rfl) ?_
            refine lv_iload_n hx hb dX11_stress_262 rfl (lv_at hl 4 rfl) ?_
            refine lv_iconst (v := (0 : Int32)) hx hb dX11_stress_263 (by decide) ?_
            refine tw_Vi (q := (RX11, TX11, 31)) (As := [.int p1, .int (0 : Int32)]) (rest := []) ⟨hx, hb, hml, hown, hts⟩ (c_X11_left l D cy κ G p0 k0 p1 (by omega) (0 : Int32)) (cwV 2 hts gX11_stress_X11_left rfl rfl rfl (by decide +kernel) ⟨Nat.le_of_ble_eq_true rfl, Nat.le_of_ble_eq_true rfl⟩) hK hT hS k0 (by decide) rfl rfl hl.1 rfl (Nat.le_of_ble_eq_true rfl) dX11_stress_264 ⟨Nat.zero_le _, Nat.zero_le _⟩ (fun x25 u26 H locs hpu26 hT hS => ?_)
            obtain ⟨huu26, qu26⟩ := hpu26
            rw [huu26] at hT
            refine lv_i2l hx hb dX11_stress_267 rfl ?_
            refine lv_topl (fun y27 ey27 => ?_)
            have ty27 : y27.toInt = x25.toInt := by rw [ey27]; exact Int32.toInt_toInt64 x25
            refine lv_lload_n hx hb dX11_stress_268 rfl (lv_at hl 2 rfl) ?_
            refine lv_lmul hx hb dX11_stress_269 ?_
            refine lv_topl (fun y28 ey28 => ?_)
            have ty28 := mul0 ey28
            refine lv_aload_n hx hb dX11_stress_270 rfl (lv_at hl 3 rfl) ?_
            refine lv_iload_n hx hb dX11_stress_271 rfl (lv_at hl 4 rfl) ?_
            refine lv_iconst (v := (2 : Int32)) hx hb dX11_stress_272 (by decide) ?_
            refine tw_Vi (q := (RX11, TX11, 31)) (As := [.int p1, .int (2 : Int32)]) (rest := [.long y28]) ⟨hx, hb, hml, hown, hts⟩ (c_X11_left l D cy κ G p0 k0 p1 (by omega) (2 : Int32)) (cwV 2 hts gX11_stress_X11_left rfl rfl rfl (by decide +kernel) ⟨Nat.le_of_ble_eq_true rfl, Nat.le_of_ble_eq_true rfl⟩) hK hT hS k0 (by decide) rfl rfl hl.1 rfl (Nat.le_of_ble_eq_true rfl) dX11_stress_273 ⟨Nat.zero_le _, Nat.zero_le _⟩ (fun x29 u30 H locs hpu30 hT hS => ?_)
            obtain ⟨huu30, qu30⟩ := hpu30
            rw [huu30] at hT
            refine lv_i2l hx hb dX11_stress_276 rfl ?_
            refine lv_topl (fun y31 ey31 => ?_)
            have ty31 : y31.toInt = x29.toInt := by rw [ey31]; exact Int32.toInt_toInt64 x29
            refine lv_lload hx hb dX11_stress_277 (lv_at hl 1 rfl) ?_
            refine lv_lmul hx hb dX11_stress_279 ?_
            refine lv_topl (fun y32 ey32 => ?_)
            have ty32 := mul0 ey32
            refine lv_ladd hx hb dX11_stress_280 ?_
            refine lv_topl (fun y33 ey33 => ?_)
            have ty33 := add0 ey33
            refine lv_goto (tgt := 322) hx hb dX11_stress_281 (by decide) ?_
            exact hret H locs ls 322 y33 G dX11_stress_322 ⟨rfl, by omega⟩ hT hS
        refine tb_if_ne (tgt := 187) hx hb dX11_stress_173 (by decide) (fun c34 => ?_) (fun c34 => ?_)
        · skip
          refine lv_aload_n hx hb dX11_stress_187 rfl (lv_at hl 2 rfl) ?_
          refine gf_11_15 hx hb hts hin11 hown hK hT k0 hfl41 dX11_stress_188 (fun a35 ka35 fva35 => ?_)
          obtain rfl : a7 = a35 := eRef (FV.eq fva7 fva35)
          refine lv_iload_n hx hb dX11_stress_191 rfl (lv_at hl 3 rfl) ?_
          refine tw_ia (K := 1060) (n := 60) (P := fun _ => True) hx hb hK hT ka7 (by decide) rfl rfl (by omega) rfl dX11_stress_192 (fun x36 _ fvx36 => ?_)
          obtain rfl : x8 = x36 := eInt (AV.eq fvx8 fvx36)
          refine lv_iconst (v := (1 : Int32)) hx hb dX11_stress_193 (by decide) ?_
          refine tb_icmp_ne (tgt := 208) hx hb dX11_stress_194 (by decide) (fun c37 => ?_) (fun c37 => ?_)
          · skip
            refine lv_aload_n hx hb dX11_stress_208 rfl (lv_at hl 2 rfl) ?_
            refine gf_11_15 hx hb hts hin11 hown hK hT k0 hfl41 dX11_stress_209 (fun a38 ka38 fva38 => ?_)
            obtain rfl : a7 = a38 := eRef (FV.eq fva7 fva38)
            refine lv_iload_n hx hb dX11_stress_212 rfl (lv_at hl 3 rfl) ?_
            refine tw_ia (K := 1060) (n := 60) (P := fun _ => True) hx hb hK hT ka7 (by decide) rfl rfl (by omega) rfl dX11_stress_213 (fun x39 _ fvx39 => ?_)
            obtain rfl : x8 = x39 := eInt (AV.eq fvx8 fvx39)
            refine lv_iconst (v := (2 : Int32)) hx hb dX11_stress_214 (by decide) ?_
            refine tb_icmp_ne (tgt := 238) hx hb dX11_stress_215 (by decide) (fun c40 => ?_) (fun c40 => ?_)
            · skip
              refine lv_ldc2 hx hb hown hkl156 dX11_stress_238 ?_
              refine lv_aload_n hx hb dX11_stress_241 rfl (lv_at hl 2 rfl) ?_
              refine gf_11_21 hx hb hts hin11 hown hK hT k0 hfl124 dX11_stress_242 (fun y41 ky41 fvy41 => ?_)
              refine lv_lmul hx hb dX11_stress_245 ?_
              refine lv_topl (fun y42 ey42 => ?_)
              refine lv_ldc2 hx hb hown hkl156 dX11_stress_246 ?_
              refine lv_aload_n hx hb dX11_stress_249 rfl (lv_at hl 2 rfl) ?_
              refine gf_11_22 hx hb hts hin11 hown hK hT k0 hfl127 dX11_stress_250 (fun y43 ky43 fvy43 => ?_)
              refine lv_lmul hx hb dX11_stress_253 ?_
              refine lv_topl (fun y44 ey44 => ?_)
              refine lv_lsub hx hb dX11_stress_254 ?_
              refine lv_topl (fun y45 ey45 => ?_)
              exact J255 H locs ls y45 hT hS (lv_sub hl [0, 1, 2, 3, 4] rfl) 
            · skip
              refine lv_ldc2 hx hb hown hkl156 dX11_stress_218 ?_
              refine lv_aload_n hx hb dX11_stress_221 rfl (lv_at hl 2 rfl) ?_
              refine gf_11_22 hx hb hts hin11 hown hK hT k0 hfl127 dX11_stress_222 (fun y46 ky46 fvy46 => ?_)
              refine lv_lmul hx hb dX11_stress_225 ?_
              refine lv_topl (fun y47 ey47 => ?_)
              refine lv_ldc2 hx hb hown hkl156 dX11_stress_226 ?_
              refine lv_aload_n hx hb dX11_stress_229 rfl (lv_at hl 2 rfl) ?_
              refine gf_11_21 hx hb hts hin11 hown hK hT k0 hfl124 dX11_stress_230 (fun y48 ky48 fvy48 => ?_)
              refine lv_lmul hx hb dX11_stress_233 ?_
              refine lv_topl (fun y49 ey49 => ?_)
              refine lv_lsub hx hb dX11_stress_234 ?_
              refine lv_topl (fun y50 ey50 => ?_)
              refine lv_goto (tgt := 255) hx hb dX11_stress_235 (by decide) ?_
              exact J255 H locs ls y50 hT hS (lv_sub hl [0, 1, 2, 3, 4] rfl) 
          · skip
            refine lv_ldc2 hx hb hown hkl158 dX11_stress_197 ?_
            refine lv_aload_n hx hb dX11_stress_200 rfl (lv_at hl 2 rfl) ?_
            refine gf_11_23 hx hb hts hin11 hown hK hT k0 hfl130 dX11_stress_201 (fun y51 ky51 fvy51 => ?_)
            refine lv_lmul hx hb dX11_stress_204 ?_
            refine lv_topl (fun y52 ey52 => ?_)
            refine lv_goto (tgt := 255) hx hb dX11_stress_205 (by decide) ?_
            exact J255 H locs ls y52 hT hS (lv_sub hl [0, 1, 2, 3, 4] rfl) 
        · skip
          refine lv_ldc2 hx hb hown hkl156 dX11_stress_176 ?_
          refine lv_aload_n hx hb dX11_stress_179 rfl (lv_at hl 2 rfl) ?_
          refine gf_11_23 hx hb hts hin11 hown hK hT k0 hfl130 dX11_stress_180 (fun y53 ky53 fvy53 => ?_)
          refine lv_lmul hx hb dX11_stress_183 ?_
          refine lv_topl (fun y54 ey54 => ?_)
          refine lv_goto (tgt := 255) hx hb dX11_stress_184 (by decide) ?_
          exact J255 H locs ls y54 hT hS (lv_sub hl [0, 1, 2, 3, 4] rfl) 
      refine tb_if_ne (tgt := 103) hx hb dX11_stress_89 (by decide) (fun c55 => ?_) (fun c55 => ?_)
      · skip
        refine lv_aload_n hx hb dX11_stress_103 rfl (lv_at hl 1 rfl) ?_
        refine gf_11_15 hx hb hts hin11 hown hK hT k0 hfl41 dX11_stress_104 (fun a56 ka56 fva56 => ?_)
        obtain rfl : a4 = a56 := eRef (FV.eq fva4 fva56)
        refine lv_iload_n hx hb dX11_stress_107 rfl (lv_at hl 2 rfl) ?_
        refine tw_ia (K := 1060) (n := 60) (P := fun _ => True) hx hb hK hT ka4 (by decide) rfl rfl (by omega) rfl dX11_stress_108 (fun x57 _ fvx57 => ?_)
        obtain rfl : x5 = x57 := eInt (AV.eq fvx5 fvx57)
        refine lv_iconst (v := (1 : Int32)) hx hb dX11_stress_109 (by decide) ?_
        refine tb_icmp_ne (tgt := 124) hx hb dX11_stress_110 (by decide) (fun c58 => ?_) (fun c58 => ?_)
        · skip
          refine lv_aload_n hx hb dX11_stress_124 rfl (lv_at hl 1 rfl) ?_
          refine gf_11_15 hx hb hts hin11 hown hK hT k0 hfl41 dX11_stress_125 (fun a59 ka59 fva59 => ?_)
          obtain rfl : a4 = a59 := eRef (FV.eq fva4 fva59)
          refine lv_iload_n hx hb dX11_stress_128 rfl (lv_at hl 2 rfl) ?_
          refine tw_ia (K := 1060) (n := 60) (P := fun _ => True) hx hb hK hT ka4 (by decide) rfl rfl (by omega) rfl dX11_stress_129 (fun x60 _ fvx60 => ?_)
          obtain rfl : x5 = x60 := eInt (AV.eq fvx5 fvx60)
          refine lv_iconst (v := (2 : Int32)) hx hb dX11_stress_130 (by decide) ?_
          refine tb_icmp_ne (tgt := 151) hx hb dX11_stress_131 (by decide) (fun c61 => ?_) (fun c61 => ?_)
          · skip
            refine lv_aload_n hx hb dX11_stress_151 rfl (lv_at hl 1 rfl) ?_
            refine gf_11_21 hx hb hts hin11 hown hK hT k0 hfl124 dX11_stress_152 (fun y62 ky62 fvy62 => ?_)
            refine lv_aload_n hx hb dX11_stress_155 rfl (lv_at hl 1 rfl) ?_
            refine gf_11_22 hx hb hts hin11 hown hK hT k0 hfl127 dX11_stress_156 (fun y63 ky63 fvy63 => ?_)
            refine lv_ladd hx hb dX11_stress_159 ?_
            refine lv_topl (fun y64 ey64 => ?_)
            refine lv_aload_n hx hb dX11_stress_160 rfl (lv_at hl 1 rfl) ?_
            refine gf_11_23 hx hb hts hin11 hown hK hT k0 hfl130 dX11_stress_161 (fun y65 ky65 fvy65 => ?_)
            refine lv_ladd hx hb dX11_stress_164 ?_
            refine lv_topl (fun y66 ey66 => ?_)
            exact J165 H locs ls y66 hT hS (lv_sub hl [0, 1, 2, 3] rfl) 
          · skip
            refine lv_aload_n hx hb dX11_stress_134 rfl (lv_at hl 1 rfl) ?_
            refine gf_11_21 hx hb hts hin11 hown hK hT k0 hfl124 dX11_stress_135 (fun y67 ky67 fvy67 => ?_)
            refine lv_aload_n hx hb dX11_stress_138 rfl (lv_at hl 1 rfl) ?_
            refine gf_11_22 hx hb hts hin11 hown hK hT k0 hfl127 dX11_stress_139 (fun y68 ky68 fvy68 => ?_)
            refine lv_ladd hx hb dX11_stress_142 ?_
            refine lv_topl (fun y69 ey69 => ?_)
            refine lv_aload_n hx hb dX11_stress_143 rfl (lv_at hl 1 rfl) ?_
            refine gf_11_23 hx hb hts hin11 hown hK hT k0 hfl130 dX11_stress_144 (fun y70 ky70 fvy70 => ?_)
            refine lv_lsub hx hb dX11_stress_147 ?_
            refine lv_topl (fun y71 ey71 => ?_)
            refine lv_goto (tgt := 165) hx hb dX11_stress_148 (by decide) ?_
            exact J165 H locs ls y71 hT hS (lv_sub hl [0, 1, 2, 3] rfl) 
        · skip
          refine lv_ldc2 hx hb hown hkl156 dX11_stress_113 ?_
          refine lv_aload_n hx hb dX11_stress_116 rfl (lv_at hl 1 rfl) ?_
          refine gf_11_21 hx hb hts hin11 hown hK hT k0 hfl124 dX11_stress_117 (fun y72 ky72 fvy72 => ?_)
          refine lv_lmul hx hb dX11_stress_120 ?_
          refine lv_topl (fun y73 ey73 => ?_)
          refine lv_goto (tgt := 165) hx hb dX11_stress_121 (by decide) ?_
          exact J165 H locs ls y73 hT hS (lv_sub hl [0, 1, 2, 3] rfl) 
      · skip
        refine lv_ldc2 hx hb hown hkl156 dX11_stress_92 ?_
        refine lv_aload_n hx hb dX11_stress_95 rfl (lv_at hl 1 rfl) ?_
        refine gf_11_22 hx hb hts hin11 hown hK hT k0 hfl127 dX11_stress_96 (fun y74 ky74 fvy74 => ?_)
        refine lv_lmul hx hb dX11_stress_99 ?_
        refine lv_topl (fun y75 ey75 => ?_)
        refine lv_goto (tgt := 165) hx hb dX11_stress_100 (by decide) ?_
        exact J165 H locs ls y75 hT hS (lv_sub hl [0, 1, 2, 3] rfl) 
    refine tb_if_ne (tgt := 20) hx hb dX11_stress_6 (by decide) (fun c76 => ?_) (fun c76 => ?_)
    · skip
      refine lv_aload_n hx hb dX11_stress_20 rfl (lv_at hl 0 rfl) ?_
      refine gf_11_15 hx hb hts hin11 hown hK hT k0 hfl41 dX11_stress_21 (fun a77 ka77 fva77 => ?_)
      obtain rfl : a1 = a77 := eRef (FV.eq fva1 fva77)
      refine lv_iload_n hx hb dX11_stress_24 rfl (lv_at hl 1 rfl) ?_
      refine tw_ia (K := 1060) (n := 60) (P := fun _ => True) hx hb hK hT ka1 (by decide) rfl rfl (by omega) rfl dX11_stress_25 (fun x78 _ fvx78 => ?_)
      obtain rfl : x2 = x78 := eInt (AV.eq fvx2 fvx78)
      refine lv_iconst (v := (1 : Int32)) hx hb dX11_stress_26 (by decide) ?_
      refine tb_icmp_ne (tgt := 41) hx hb dX11_stress_27 (by decide) (fun c79 => ?_) (fun c79 => ?_)
      · skip
        refine lv_aload_n hx hb dX11_stress_41 rfl (lv_at hl 0 rfl) ?_
        refine gf_11_15 hx hb hts hin11 hown hK hT k0 hfl41 dX11_stress_42 (fun a80 ka80 fva80 => ?_)
        obtain rfl : a1 = a80 := eRef (FV.eq fva1 fva80)
        refine lv_iload_n hx hb dX11_stress_45 rfl (lv_at hl 1 rfl) ?_
        refine tw_ia (K := 1060) (n := 60) (P := fun _ => True) hx hb hK hT ka1 (by decide) rfl rfl (by omega) rfl dX11_stress_46 (fun x81 _ fvx81 => ?_)
        obtain rfl : x2 = x81 := eInt (AV.eq fvx2 fvx81)
        refine lv_iconst (v := (2 : Int32)) hx hb dX11_stress_47 (by decide) ?_
        refine tb_icmp_ne (tgt := 68) hx hb dX11_stress_48 (by decide) (fun c82 => ?_) (fun c82 => ?_)
        · skip
          refine lv_aload_n hx hb dX11_stress_68 rfl (lv_at hl 0 rfl) ?_
          refine gf_11_21 hx hb hts hin11 hown hK hT k0 hfl124 dX11_stress_69 (fun y83 ky83 fvy83 => ?_)
          refine lv_aload_n hx hb dX11_stress_72 rfl (lv_at hl 0 rfl) ?_
          refine gf_11_22 hx hb hts hin11 hown hK hT k0 hfl127 dX11_stress_73 (fun y84 ky84 fvy84 => ?_)
          refine lv_ladd hx hb dX11_stress_76 ?_
          refine lv_topl (fun y85 ey85 => ?_)
          refine lv_aload_n hx hb dX11_stress_77 rfl (lv_at hl 0 rfl) ?_
          refine gf_11_23 hx hb hts hin11 hown hK hT k0 hfl130 dX11_stress_78 (fun y86 ky86 fvy86 => ?_)
          refine lv_lsub hx hb dX11_stress_81 ?_
          refine lv_topl (fun y87 ey87 => ?_)
          exact J82 H locs ls y87 hT hS (lv_sub hl [0, 1, 2] rfl) 
        · skip
          refine lv_aload_n hx hb dX11_stress_51 rfl (lv_at hl 0 rfl) ?_
          refine gf_11_21 hx hb hts hin11 hown hK hT k0 hfl124 dX11_stress_52 (fun y88 ky88 fvy88 => ?_)
          refine lv_aload_n hx hb dX11_stress_55 rfl (lv_at hl 0 rfl) ?_
          refine gf_11_22 hx hb hts hin11 hown hK hT k0 hfl127 dX11_stress_56 (fun y89 ky89 fvy89 => ?_)
          refine lv_ladd hx hb dX11_stress_59 ?_
          refine lv_topl (fun y90 ey90 => ?_)
          refine lv_aload_n hx hb dX11_stress_60 rfl (lv_at hl 0 rfl) ?_
          refine gf_11_23 hx hb hts hin11 hown hK hT k0 hfl130 dX11_stress_61 (fun y91 ky91 fvy91 => ?_)
          refine lv_ladd hx hb dX11_stress_64 ?_
          refine lv_topl (fun y92 ey92 => ?_)
          refine lv_goto (tgt := 82) hx hb dX11_stress_65 (by decide) ?_
          exact J82 H locs ls y92 hT hS (lv_sub hl [0, 1, 2] rfl) 
      · skip
        refine lv_ldc2 hx hb hown hkl156 dX11_stress_30 ?_
        refine lv_aload_n hx hb dX11_stress_33 rfl (lv_at hl 0 rfl) ?_
        refine gf_11_22 hx hb hts hin11 hown hK hT k0 hfl127 dX11_stress_34 (fun y93 ky93 fvy93 => ?_)
        refine lv_lmul hx hb dX11_stress_37 ?_
        refine lv_topl (fun y94 ey94 => ?_)
        refine lv_goto (tgt := 82) hx hb dX11_stress_38 (by decide) ?_
        exact J82 H locs ls y94 hT hS (lv_sub hl [0, 1, 2] rfl) 
    · skip
      refine lv_ldc2 hx hb hown hkl156 dX11_stress_9 ?_
      refine lv_aload_n hx hb dX11_stress_12 rfl (lv_at hl 0 rfl) ?_
      refine gf_11_21 hx hb hts hin11 hown hK hT k0 hfl124 dX11_stress_13 (fun y95 ky95 fvy95 => ?_)
      refine lv_lmul hx hb dX11_stress_16 ?_
      refine lv_topl (fun y96 ey96 => ?_)
      refine lv_goto (tgt := 82) hx hb dX11_stress_17 (by decide) ?_
      exact J82 H locs ls y96 hT hS (lv_sub hl [0, 1, 2] rfl) 
  exact main s.heap [] hT va_S.rf
