abbrev rmX11_isAbove : Room := { frames := 0, cells := 0, slots := 0, locals := 0 }
set_option maxHeartbeats 4000000 in
set_option maxRecDepth 100000 in
theorem c_X11_isAbove (l : Launch) (D : va_G) (cy : Nat → ClassId) (κ : Nat → Nat) (G : Gh) (p0 : Int64) (p1 : Int64) (p2 : Int64) (p3 : Int64) (h1 : p1.toInt ≠ 0) (h3 : p3.toInt ≠ 0) : Met l yX11_isAbove wsX11_isAbove rmX11_isAbove (va_Pc [.long p0, .long p1, .long p2, .long p3] (fun U => WW D cy κ G U)) (va_Qi (fun (r : Int32) (u : Gh) => u = G ∧ (0 ≤ r.toInt ∧ r.toInt ≤ 1)) (fun u t => WW D cy κ u t) (AA κ)) 0 0 (AA κ) := by
  refine Met.twz (cc := cX11_isAbove) (maxL := 20) (by decide) rfl (Nat.le_of_ble_eq_true rfl) ?_
  intro p e s m args below meth c Q hx hb hml hown hts hK hT hret ls hl
  have hl : lv_has ls 20 [(0, .long p0), (2, .long p1), (4, .long p2), (6, .long p3)] := hl
  have hlc0 : (0 : Int64).toInt = 0 := rfl
  have hc0 : (0 : Int32).toInt = 0 := rfl
  have hc1 : (1 : Int32).toInt = 1 := rfl
  have main : ∀ (H : Heap) (locs : List Loc), TW D cy κ G H → va_S (AA κ) s.heap H locs → W p l e rmX11_isAbove s m args below meth c H locs 0 0 Q (F0 m 0 ls []) := by
    intro H locs hT hS
    refine lv_lload_n hx hb dX11_isAbove_0 rfl (lv_at hl 0 rfl) ?_
    refine lv_lstore (lv' := [(8, .long p0), (0, .long p0), (2, .long p1), (4, .long p2), (6, .long p3)]) hx hb dX11_isAbove_1 hl (by decide) rfl (fun ls hl => ?_)
    refine lv_lload_n hx hb dX11_isAbove_3 rfl (lv_at hl 2 rfl) ?_
    refine lv_lstore (lv' := [(10, .long p1), (8, .long p0), (0, .long p0), (2, .long p1), (4, .long p2), (6, .long p3)]) hx hb dX11_isAbove_4 hl (by decide) rfl (fun ls hl => ?_)
    refine lv_lload hx hb dX11_isAbove_6 (lv_at hl 4 rfl) ?_
    refine lv_lstore (lv' := [(12, .long p2), (10, .long p1), (8, .long p0), (0, .long p0), (2, .long p1), (4, .long p2), (6, .long p3)]) hx hb dX11_isAbove_8 hl (by decide) rfl (fun ls hl => ?_)
    refine lv_lload hx hb dX11_isAbove_10 (lv_at hl 6 rfl) ?_
    refine lv_lstore (lv' := [(14, .long p3), (12, .long p2), (10, .long p1), (8, .long p0), (0, .long p0), (2, .long p1), (4, .long p2), (6, .long p3)]) hx hb dX11_isAbove_12 hl (by decide) rfl (fun ls hl => ?_)
    have L14 : ∀ (nn : Nat) (H : Heap) (locs : List Loc) (ls : Array Slot) (y1 : Int64) (y2 : Int64) (y3 : Int64) (y4 : Int64), (nn = (y3.toInt.natAbs + y1.toInt.natAbs)) → (TW D cy κ G H) → (va_S (AA κ) s.heap H locs) → (lv_has ls 20 [(14, .long y1), (12, .long y2), (10, .long y3), (8, .long y4), (0, .long p0), (2, .long p1), (4, .long p2), (6, .long p3)]) → (y3.toInt ≠ 0 ∧ y1.toInt ≠ 0) → W p l e rmX11_isAbove s m args below meth c H locs 0 0 Q (F0 m 14 ls []) := by
      intro nn
      induction nn using Nat.strongRecOn with
      | _ nn ih14 =>
        intro H locs ls y1 y2 y3 y4 hnn hT hS hl fL14_0
        refine lv_lload hx hb dX11_isAbove_14 (lv_at hl 3 rfl) ?_
        refine lv_lload hx hb dX11_isAbove_16 (lv_at hl 2 rfl) ?_
        refine lv_ldiv hx hb dX11_isAbove_18 (ne64 (by omega)) ?_
        refine lv_topl (fun y5 ey5 => ?_)
        have ty5 : y5.toInt = (y4 / y3).toInt := by rw [ey5]
        refine lv_lload hx hb dX11_isAbove_19 (lv_at hl 1 rfl) ?_
        refine lv_lload hx hb dX11_isAbove_21 (lv_at hl 0 rfl) ?_
        refine lv_ldiv hx hb dX11_isAbove_23 (ne64 (by omega)) ?_
        refine lv_topl (fun y6 ey6 => ?_)
        have ty6 : y6.toInt = (y2 / y1).toInt := by rw [ey6]
        refine tb_lcmp2 hx hb dX11_isAbove_24 (fun x7 tx7 ux7 => ?_)
        have J81 : ∀ (H : Heap) (locs : List Loc) (ls : Array Slot) , (TW D cy κ G H) → (va_S (AA κ) s.heap H locs) → (lv_has ls 20 [(14, .long y1), (12, .long y2), (10, .long y3), (8, .long y4), (0, .long p0), (2, .long p1), (4, .long p2), (6, .long p3)]) → (y3.toInt ≠ 0 ∧ y1.toInt ≠ 0) → W p l e rmX11_isAbove s m args below meth c H locs 0 0 Q (F0 m 81 ls []) := by
          intro H locs ls  hT hS hl fJ81_0
          refine lv_lload hx hb dX11_isAbove_81 (lv_at hl 3 rfl) ?_
          refine lv_lload hx hb dX11_isAbove_83 (lv_at hl 2 rfl) ?_
          refine lv_ldiv hx hb dX11_isAbove_85 (ne64 (by omega)) ?_
          refine lv_topl (fun y8 ey8 => ?_)
          have ty8 : y8.toInt = (y4 / y3).toInt := by rw [ey8]
          refine lv_lload hx hb dX11_isAbove_86 (lv_at hl 1 rfl) ?_
          refine lv_lload hx hb dX11_isAbove_88 (lv_at hl 0 rfl) ?_
          refine lv_ldiv hx hb dX11_isAbove_90 (ne64 (by omega)) ?_
          refine lv_topl (fun y9 ey9 => ?_)
          have ty9 : y9.toInt = (y2 / y1).toInt := by rw [ey9]
          refine tb_lcmp2 hx hb dX11_isAbove_91 (fun x10 tx10 ux10 => ?_)
          refine tb_if_eq (tgt := 117) hx hb dX11_isAbove_92 (by decide) (fun c11 => ?_) (fun c11 => ?_)
          · skip
            refine lv_lload hx hb dX11_isAbove_117 (lv_at hl 3 rfl) ?_
            refine lv_lload hx hb dX11_isAbove_119 (lv_at hl 2 rfl) ?_
            refine lv_lrem hx hb dX11_isAbove_121 (ne64 (by omega)) ?_
            refine lv_topl (fun y12 ey12 => ?_)
            rw [lrem_eq] at ey12
            have ty12 : y12.toInt = (y4 % y3).toInt := by rw [ey12]
            have ny12 := rem64 ey12 (by omega)
            refine lv_lconst (v := 0) hx hb dX11_isAbove_122 (by decide) ?_
            refine tb_lcmp2 hx hb dX11_isAbove_123 (fun x13 tx13 ux13 => ?_)
            refine tb_if_eq (tgt := 131) hx hb dX11_isAbove_124 (by decide) (fun c14 => ?_) (fun c14 => ?_)
            · skip
              refine lv_iconst (v := (0 : Int32)) hx hb dX11_isAbove_131 (by decide) ?_
              exact hret H locs ls 132 (0 : Int32) G dX11_isAbove_132 (by omega) ⟨rfl, by omega⟩ hT hS
            · skip
              refine lv_iconst (v := (1 : Int32)) hx hb dX11_isAbove_127 (by decide) ?_
              refine lv_goto (tgt := 132) hx hb dX11_isAbove_128 (by decide) ?_
              exact hret H locs ls 132 (1 : Int32) G dX11_isAbove_132 (by omega) ⟨rfl, by omega⟩ hT hS
          · skip
            refine lv_lload hx hb dX11_isAbove_95 (lv_at hl 3 rfl) ?_
            refine lv_lload hx hb dX11_isAbove_97 (lv_at hl 2 rfl) ?_
            refine lv_ldiv hx hb dX11_isAbove_99 (ne64 (by omega)) ?_
            refine lv_topl (fun y15 ey15 => ?_)
            have ty15 : y15.toInt = (y4 / y3).toInt := by rw [ey15]
            refine lv_lload hx hb dX11_isAbove_100 (lv_at hl 1 rfl) ?_
            refine lv_lload hx hb dX11_isAbove_102 (lv_at hl 0 rfl) ?_
            refine lv_ldiv hx hb dX11_isAbove_104 (ne64 (by omega)) ?_
            refine lv_topl (fun y16 ey16 => ?_)
            have ty16 : y16.toInt = (y2 / y1).toInt := by rw [ey16]
            refine tb_lcmp2 hx hb dX11_isAbove_105 (fun x17 tx17 ux17 => ?_)
            refine tb_if_le (tgt := 113) hx hb dX11_isAbove_106 (by decide) (fun c18 => ?_) (fun c18 => ?_)
            · skip
              refine lv_iconst (v := (0 : Int32)) hx hb dX11_isAbove_113 (by decide) ?_
              refine lv_goto (tgt := 132) hx hb dX11_isAbove_114 (by decide) ?_
              exact hret H locs ls 132 (0 : Int32) G dX11_isAbove_132 (by omega) ⟨rfl, by omega⟩ hT hS
            · skip
              refine lv_iconst (v := (1 : Int32)) hx hb dX11_isAbove_109 (by decide) ?_
              refine lv_goto (tgt := 132) hx hb dX11_isAbove_110 (by decide) ?_
              exact hret H locs ls 132 (1 : Int32) G dX11_isAbove_132 (by omega) ⟨rfl, by omega⟩ hT hS
        refine tb_if_ne (tgt := 81) hx hb dX11_isAbove_25 (by decide) (fun c19 => ?_) (fun c19 => ?_)
        · skip
          exact J81 H locs ls  hT hS (lv_sub hl [0, 1, 2, 3, 4, 5, 6, 7] rfl) (by omega)
        · skip
          refine lv_lload hx hb dX11_isAbove_28 (lv_at hl 3 rfl) ?_
          refine lv_lload hx hb dX11_isAbove_30 (lv_at hl 2 rfl) ?_
          refine lv_lrem hx hb dX11_isAbove_32 (ne64 (by omega)) ?_
          refine lv_topl (fun y20 ey20 => ?_)
          rw [lrem_eq] at ey20
          have ty20 : y20.toInt = (y4 % y3).toInt := by rw [ey20]
          have ny20 := rem64 ey20 (by omega)
          refine lv_lconst (v := 0) hx hb dX11_isAbove_33 (by decide) ?_
          refine tb_lcmp2 hx hb dX11_isAbove_34 (fun x21 tx21 ux21 => ?_)
          refine tb_if_eq (tgt := 81) hx hb dX11_isAbove_35 (by decide) (fun c22 => ?_) (fun c22 => ?_)
          · skip
            exact J81 H locs ls  hT hS (lv_sub hl [0, 1, 2, 3, 4, 5, 6, 7] rfl) (by omega)
          · skip
            refine lv_lload hx hb dX11_isAbove_38 (lv_at hl 1 rfl) ?_
            refine lv_lload hx hb dX11_isAbove_40 (lv_at hl 0 rfl) ?_
            refine lv_lrem hx hb dX11_isAbove_42 (ne64 (by omega)) ?_
            refine lv_topl (fun y23 ey23 => ?_)
            rw [lrem_eq] at ey23
            have ty23 : y23.toInt = (y2 % y1).toInt := by rw [ey23]
            have ny23 := rem64 ey23 (by omega)
            refine lv_lconst (v := 0) hx hb dX11_isAbove_43 (by decide) ?_
            refine tb_lcmp2 hx hb dX11_isAbove_44 (fun x24 tx24 ux24 => ?_)
            refine tb_if_eq (tgt := 81) hx hb dX11_isAbove_45 (by decide) (fun c25 => ?_) (fun c25 => ?_)
            · skip
              exact J81 H locs ls  hT hS (lv_sub hl [0, 1, 2, 3, 4, 5, 6, 7] rfl) (by omega)
            · skip
              refine lv_lload hx hb dX11_isAbove_48 (lv_at hl 3 rfl) ?_
              refine lv_lload hx hb dX11_isAbove_50 (lv_at hl 2 rfl) ?_
              refine lv_lrem hx hb dX11_isAbove_52 (ne64 (by omega)) ?_
              refine lv_topl (fun y26 ey26 => ?_)
              rw [lrem_eq] at ey26
              have ty26 : y26.toInt = (y4 % y3).toInt := by rw [ey26]
              have ny26 := rem64 ey26 (by omega)
              refine lv_lstore (lv' := [(16, .long y26), (14, .long y1), (12, .long y2), (10, .long y3), (8, .long y4), (0, .long p0), (2, .long p1), (4, .long p2), (6, .long p3)]) hx hb dX11_isAbove_53 hl (by decide) rfl (fun ls hl => ?_)
              refine lv_lload hx hb dX11_isAbove_55 (lv_at hl 2 rfl) ?_
              refine lv_lload hx hb dX11_isAbove_57 (lv_at hl 1 rfl) ?_
              refine lv_lrem hx hb dX11_isAbove_59 (ne64 (by omega)) ?_
              refine lv_topl (fun y27 ey27 => ?_)
              rw [lrem_eq] at ey27
              have ty27 : y27.toInt = (y2 % y1).toInt := by rw [ey27]
              have ny27 := rem64 ey27 (by omega)
              refine lv_lstore (lv' := [(18, .long y27), (16, .long y26), (14, .long y1), (12, .long y2), (10, .long y3), (8, .long y4), (0, .long p0), (2, .long p1), (4, .long p2), (6, .long p3)]) hx hb dX11_isAbove_60 hl (by decide) rfl (fun ls hl => ?_)
              refine lv_lload hx hb dX11_isAbove_62 (lv_at hl 2 rfl) ?_
              refine lv_lstore (lv' := [(8, .long y1), (18, .long y27), (16, .long y26), (14, .long y1), (12, .long y2), (10, .long y3), (0, .long p0), (2, .long p1), (4, .long p2), (6, .long p3)]) hx hb dX11_isAbove_64 hl (by decide) rfl (fun ls hl => ?_)
              refine lv_lload hx hb dX11_isAbove_66 (lv_at hl 5 rfl) ?_
              refine lv_lstore (lv' := [(12, .long y3), (8, .long y1), (18, .long y27), (16, .long y26), (14, .long y1), (10, .long y3), (0, .long p0), (2, .long p1), (4, .long p2), (6, .long p3)]) hx hb dX11_isAbove_68 hl (by decide) rfl (fun ls hl => ?_)
              refine lv_lload hx hb dX11_isAbove_70 (lv_at hl 2 rfl) ?_
              refine lv_lstore (lv' := [(10, .long y27), (12, .long y3), (8, .long y1), (18, .long y27), (16, .long y26), (14, .long y1), (0, .long p0), (2, .long p1), (4, .long p2), (6, .long p3)]) hx hb dX11_isAbove_72 hl (by decide) rfl (fun ls hl => ?_)
              refine lv_lload hx hb dX11_isAbove_74 (lv_at hl 4 rfl) ?_
              refine lv_lstore (lv' := [(14, .long y26), (10, .long y27), (12, .long y3), (8, .long y1), (18, .long y27), (16, .long y26), (0, .long p0), (2, .long p1), (4, .long p2), (6, .long p3)]) hx hb dX11_isAbove_76 hl (by decide) rfl (fun ls hl => ?_)
              refine lv_goto (tgt := 14) hx hb dX11_isAbove_78 (by decide) ?_
              exact ih14 ((y27.toInt.natAbs + y26.toInt.natAbs)) (by omega) H locs ls y26 y3 y27 y1 rfl hT hS (lv_sub hl [0, 2, 1, 3, 6, 7, 8, 9] rfl) (by omega)
    exact L14 _ H locs ls p3 p2 p1 p0 rfl hT hS (lv_sub hl [0, 1, 2, 3, 4, 5, 6, 7] rfl) (by omega)
  exact main s.heap [] hT va_S.rf
