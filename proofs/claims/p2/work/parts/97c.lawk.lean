/-! what the tables say: classes, arrays, nest words -/
theorem arr_of {s : State} {cA comp : ClassId} {kA : Class} {ty : FieldType} (h2 : s.vm.classes[cA]? = some kA) (h3 : kA.kind = .array comp ty) : ArrOfT s cA ty := fun n z => ⟨fun k h => (by cases h), kA, h2, comp, h3⟩
set_option maxRecDepth 100000 in
theorem law_K {s : State} {args : Array Value} (hts : ∀ w ∈ lw_tbl, w.before args s = true) : ∃ (D : va_G) (cy : Nat → ClassId), KK D cy s := by
  obtain ⟨c0, i0, k0⟩ := u_known (C := RX0) (T := TX0) (N := 4) (n := 4) hts inw_0 (hts (.instantiable RX0 4) (List.mem_of_getElem? (i := 103) (by decide +kernel)))
  obtain ⟨c1, i1, k1⟩ := u_known (C := RX1) (T := TX1) (N := 2) (n := 2) hts inw_1 (hts (.instantiable RX1 2) (List.mem_of_getElem? (i := 65) (by decide +kernel)))
  obtain ⟨c2, i2, k2⟩ := u_known (C := RX2) (T := TX2) (N := 13) (n := 13) hts inw_2 (hts (.instantiable RX2 13) (List.mem_of_getElem? (i := 231) (by decide +kernel)))
  obtain ⟨c3, i3, k3⟩ := u_known (C := RX3) (T := TX3) (N := 2) (n := 2) hts inw_3 (hts (.instantiable RX3 2) (List.mem_of_getElem? (i := 179) (by decide +kernel)))
  obtain ⟨c4, i4, k4⟩ := u_known (C := RX4) (T := TX4) (N := 3) (n := 3) hts inw_4 (hts (.instantiable RX4 3) (List.mem_of_getElem? (i := 84) (by decide +kernel)))
  obtain ⟨c5, i5, k5⟩ := u_known (C := RX5) (T := TX5) (N := 4) (n := 4) hts inw_5 (hts (.instantiable RX5 4) (List.mem_of_getElem? (i := 133) (by decide +kernel)))
  obtain ⟨c6, i6, k6⟩ := u_known (C := RX6) (T := TX6) (N := 4) (n := 4) hts inw_6 (hts (.instantiable RX6 4) (List.mem_of_getElem? (i := 237) (by decide +kernel)))
  obtain ⟨c7, i7, k7⟩ := u_known (C := RX7) (T := TX7) (N := 2) (n := 2) hts inw_7 (hts (.instantiable RX7 2) (List.mem_of_getElem? (i := 126) (by decide +kernel)))
  obtain ⟨c8, i8, k8⟩ := u_known (C := RX8) (T := TX8) (N := 7) (n := 7) hts inw_8 (hts (.instantiable RX8 7) (List.mem_of_getElem? (i := 305) (by decide +kernel)))
  obtain ⟨c9, i9, k9⟩ := u_known (C := RX9) (T := TX9) (N := 7) (n := 7) hts inw_9 (hts (.instantiable RX9 7) (List.mem_of_getElem? (i := 193) (by decide +kernel)))
  obtain ⟨c10, i10, k10⟩ := u_known (C := RX10) (T := TX10) (N := 11) (n := 11) hts inw_10 (hts (.instantiable RX10 11) (List.mem_of_getElem? (i := 53) (by decide +kernel)))
  obtain ⟨c11, i11, k11⟩ := u_known (C := RX11) (T := TX11) (N := 31) (n := 31) hts inw_11 (hts (.instantiable RX11 31) (List.mem_of_getElem? (i := 704) (by decide +kernel)))
  obtain ⟨a0, b0, p0, f0, g0, h0⟩ := Cond.arrayClass_spec (hts (.arrayClass .int) (List.mem_of_getElem? (i := 82) (by decide +kernel)))
  obtain ⟨a1, b1, p1, f1, g1, h1⟩ := Cond.arrayClass_spec (hts (.arrayClass .long) (List.mem_of_getElem? (i := 125) (by decide +kernel)))
  obtain ⟨p2, a2, b2, q2, -, g2, h2, f2⟩ := Cond.arrayOver_spec (hts (.arrayOver (.object RX5)) (List.mem_of_getElem? (i := 132) (by decide +kernel)))
  obtain ⟨p3, a3, b3, q3, -, g3, h3, f3⟩ := Cond.arrayOver_spec (hts (.arrayOver (.object RX7)) (List.mem_of_getElem? (i := 63) (by decide +kernel)))
  obtain ⟨p4, a4, b4, q4, -, g4, h4, f4⟩ := Cond.arrayOver_spec (hts (.arrayOver (.object RX9)) (List.mem_of_getElem? (i := 61) (by decide +kernel)))
  obtain ⟨p5, a5, b5, q5, -, g5, h5, f5⟩ := arrayOverA_spec (t := .int) (hts (.arrayOver (.array .int)) (List.mem_of_getElem? (i := 71) (by decide +kernel)))
  refine ⟨(fun k => if k = 0 then c0 else if k = 1 then c1 else if k = 2 then c2 else if k = 3 then c3 else if k = 4 then c4 else if k = 5 then c5 else if k = 6 then c6 else if k = 7 then c7 else if k = 8 then c8 else if k = 9 then c9 else if k = 10 then c10 else c11, fun k => if k = 0 then i0 else if k = 1 then i1 else if k = 2 then i2 else if k = 3 then i3 else if k = 4 then i4 else if k = 5 then i5 else if k = 6 then i6 else if k = 7 then i7 else if k = 8 then i8 else if k = 9 then i9 else if k = 10 then i10 else i11), fun k => if k = 0 then a0 else if k = 1 then a1 else if k = 2 then a2 else if k = 3 then a3 else if k = 4 then a4 else a5, fun k q hq => ?_, fun k q hq => ?_⟩
  · match k, hq with
    | 0, hq => cases hq; exact k0
    | 1, hq => cases hq; exact k1
    | 2, hq => cases hq; exact k2
    | 3, hq => cases hq; exact k3
    | 4, hq => cases hq; exact k4
    | 5, hq => cases hq; exact k5
    | 6, hq => cases hq; exact k6
    | 7, hq => cases hq; exact k7
    | 8, hq => cases hq; exact k8
    | 9, hq => cases hq; exact k9
    | 10, hq => cases hq; exact k10
    | 11, hq => cases hq; exact k11
    | k + 12, hq => simp [vwCl] at hq
  · match k, hq with
    | 0, hq => cases hq; exact ⟨arr_of g0 h0, f0⟩
    | 1, hq => cases hq; exact ⟨arr_of g1 h1, f1⟩
    | 2, hq => cases hq; exact ⟨arr_of g2 h2, ⟨b2, p2, g2, h2, q2, f2⟩⟩
    | 3, hq => cases hq; exact ⟨arr_of g3 h3, ⟨b3, p3, g3, h3, q3, f3⟩⟩
    | 4, hq => cases hq; exact ⟨arr_of g4 h4, ⟨b4, p4, g4, h4, q4, f4⟩⟩
    | 5, hq => cases hq; exact ⟨arr_of g5 h5, f5⟩
    | k + 6, hq => simp [tysOf] at hq
set_option maxRecDepth 100000 in
theorem law_NW {s : State} {args : Array Value} (hts : ∀ w ∈ lw_tbl, w.before args s = true) : NW s := by
  exact ⟨⟨va_Nw.of rfl (hts (.methodLinkNest RX10 25 yX1_init RX10) (List.mem_of_getElem? (i := 66) (by decide +kernel))), va_Nw.of rfl (hts (.methodLinkNest RX10 32 yX4_init RX10) (List.mem_of_getElem? (i := 85) (by decide +kernel))), va_Nw.of rfl (hts (.methodLinkNest RX10 39 yX0_init RX10) (List.mem_of_getElem? (i := 104) (by decide +kernel))), va_Nw.of rfl (hts (.methodLinkNest RX7 21 yX5_init RX10) (List.mem_of_getElem? (i := 134) (by decide +kernel))), va_Nw.of rfl (hts (.methodLinkNest RX10 51 yX3_init RX10) (List.mem_of_getElem? (i := 180) (by decide +kernel))), va_Nw.of rfl (hts (.methodLinkNest RX10 63 yX9_init RX10) (List.mem_of_getElem? (i := 194) (by decide +kernel))), va_Nw.of rfl (hts (.methodLinkNest RX2 11 yX6_init RX10) (List.mem_of_getElem? (i := 238) (by decide +kernel)))⟩, va_AO.of (hts (.arrayOver (.object RX5)) (List.mem_of_getElem? (i := 132) (by decide +kernel))), va_AO.of (hts (.arrayOver (.object RX7)) (List.mem_of_getElem? (i := 63) (by decide +kernel))), va_AO.of (hts (.arrayOver (.object RX9)) (List.mem_of_getElem? (i := 61) (by decide +kernel))), (hts (.arrayOver (.array .int)) (List.mem_of_getElem? (i := 71) (by decide +kernel)))⟩
