/-! a plate's count of layers is written -/
theorem fsp_eq {κ : Nat → Nat} {G G' : Gh} {K j b : Nat} (h0 : G'.1 0 = G.1 0) (h1 : G'.1 1 = G.1 1) (h2 : G'.1 2 = G.1 2) (h3 : G'.1 3 = G.1 3) (h4 : G'.1 4 = G.1 4) (h5 : G'.1 5 = G.1 5) (h6 : G'.1 6 = G.1 6) (h7 : G'.1 7 = G.1 7) (h78 : G'.1 8 = G.1 8) (h79 : G'.1 9 = G.1 9) (h8 : G'.2 0 = G.2 0) (h9 : G'.1 (1000 + b) = G.1 (1000 + b)) : fsp κ G' K j b = fsp κ G K j b := by
  unfold fsp
  rw [h0, h1, h2, h3, h4, h5, h6, h7, h78, h79, h8, h9]
theorem asp_eq {κ : Nat → Nat} {G G' : Gh} {K j : Nat} (h3 : G'.1 3 = G.1 3) (h6 : G'.1 8 = G.1 8) (h69 : G'.1 9 = G.1 9) (h1 : G'.1 (100 + j) = G.1 (100 + j)) (h2 : G'.1 (200 + j) = G.1 (200 + j)) : asp κ G' K j = asp κ G K j := by
  unfold asp
  rw [h3, h6, h69, h1, h2]
theorem aN_small {K j : Nat} (hK : K = 50 ∨ K = 51 ∨ K = 52 ∨ K = 53 ∨ K = 54) (hj : j < aN K) : j < 60 := by
  rcases hK with rfl | rfl | rfl | rfl | rfl <;> (unfold aN at hj; simp at hj; omega)
theorem asp_sz {κ : Nat → Nat} {G : Gh} {a K j : Nat} {x : Int32} {w : Value} (hj : j < aN K) (h : asp κ G K j w) : asp κ (szG G a x) K j w := by
  by_cases hK : K = 50 ∨ K = 51 ∨ K = 52 ∨ K = 53 ∨ K = 54
  · have hj2 := aN_small hK hj
    rw [asp_eq (G := G) (if_neg (by omega)) (if_neg (by omega)) (if_neg (by omega)) (if_neg (by omega)) (if_neg (by omega))]
    exact h
  · have e : ∀ G2 : Gh, asp κ G2 K j = (if K = 22 then toK κ 1003 else if K = 24 then toK κ 10 else if K = 29 then toK κ 6 else if K = 30 then toK κ 8 else if K < 2000 then anyI else anyL) := by
      intro G2
      unfold asp
      rw [if_neg (c := K = 50) (by omega), if_neg (c := K = 51) (by omega), if_neg (c := K = 52) (by omega), if_neg (c := K = 53) (by omega), if_neg (c := K = 54) (by omega)]
    rw [e] at h ⊢
    exact h
theorem fsp_sz {κ : Nat → Nat} {G : Gh} {a b c' j : Nat} {x : Int32} {w : Value} (hb : κ b = c' + 1) (hj : j < nF c') (hk : κ a = 8) (hn : b ≠ a ∨ j ≠ 1) (h : fsp κ G (c' + 1) j b w) : fsp κ (szG G a x) (c' + 1) j b w := by
  by_cases e : b = a
  · subst e
    have e8 : c' = 7 := by omega
    subst e8
    have hj2 : j < 2 := hj
    have hj0 : j = 0 := by
      rcases hn with q | q
      · exact absurd rfl q
      · omega
    subst hj0
    exact h
  · rw [fsp_eq (G := G) (G' := szG G a x) (if_neg (by omega)) (if_neg (by omega)) (if_neg (by omega)) (if_neg (by omega)) (if_neg (by omega)) (if_neg (by omega)) (if_neg (by omega)) (if_neg (by omega)) (if_neg (by omega)) (if_neg (by omega)) rfl (if_neg (by omega))]
    exact h
theorem fsp_sz1 {κ : Nat → Nat} {G : Gh} {a b c' j : Nat} {x : Int32} {w : Value} (hb : κ b = c' + 1) (hj : j < nF c') (hk : κ a = 1) (hn : b ≠ a ∨ j ≠ 3) (h : fsp κ G (c' + 1) j b w) : fsp κ (szG G a x) (c' + 1) j b w := by
  by_cases e : b = a
  · subst e
    have e8 : c' = 0 := by omega
    subst e8
    have hj2 : j < 4 := hj
    have hj0 : j = 0 ∨ j = 1 ∨ j = 2 := by
      rcases hn with q | q
      · exact absurd rfl q
      · omega
    rcases hj0 with rfl | rfl | rfl <;> exact h
  · rw [fsp_eq (G := G) (G' := szG G a x) (if_neg (by omega)) (if_neg (by omega)) (if_neg (by omega)) (if_neg (by omega)) (if_neg (by omega)) (if_neg (by omega)) (if_neg (by omega)) (if_neg (by omega)) (if_neg (by omega)) (if_neg (by omega)) rfl (if_neg (by omega))]
    exact h
section TWZ
variable {p : Program} {l : Launch} {e : Env} {R : Room} {s : State} {m : MethodId} {args : Array Value} {below : List Frame} {meth : Method} {c : Code} {H : Heap} {locs : List Loc} {cells slots : Nat} {Q : State → Prop}
variable {cc : ByteArray} {pc : Nat} {ls : Array Slot} {rest : List Value} {D : va_G} {cy : Nat → ClassId} {κ : Nat → Nat} {G : Gh} {a : Nat} {H0 : Heap} {own : String} {index : Nat} {Ts : List Cond}
theorem pg_7_1 (hexec : p.tables.exec = Jvm.exec) (hb : c.code = cc) (hts : ∀ w ∈ Ts, w.before args s = true) (hin : ∀ w ∈ u_ws RX7 TX7 2, w ∈ Ts) (hown : s.vm.findClass own = some m.cls) (hK : KK D cy s) (hT : TW D cy κ G H) (hS : va_S (AA κ) H0 H locs) (hk : κ a = 8) (hlink : (Cond.fieldLink own index "PlyPlates$Plate" "size" "I").before args s = true) (hdg : decode cc pc = .ok (.putfield index, 3)) {x : Int32} (hv : 0 ≤ x.toInt ∧ x.toInt ≤ 12)
    (kk : ∀ (H1 : Heap) (locs1 : List Loc), TW D cy κ (szG G a x) H1 → va_S (AA κ) H0 H1 locs1 → W p l e R s m args below meth c H1 locs1 cells slots Q (F0 m (pc + 3) ls rest)) : W p l e R s m args below meth c H locs cells slots Q (F0 m pc ls (.int x :: .ref a :: rest)) :=
  tw_putG (szG G a x) (ci := 7) (C := RX7) (T := TX7) (N := 2) hexec hb hts hin tyX7 tyX7_ok nmX7 hown hK hT hS hk (by decide) rfl rfl 1 (by decide) rfl hlink rfl (v := .int x) rfl rfl hdg ⟨x, rfl, (if_pos rfl : (szG G a x).1 (1000 + a) = x).symm, hv⟩ (fun b c' j w hb' hj hn h => fsp_sz hb' hj hk hn h) (fun K j w _ hj h => asp_sz hj h) kk
theorem pg_0_3 (hexec : p.tables.exec = Jvm.exec) (hb : c.code = cc) (hts : ∀ w ∈ Ts, w.before args s = true) (hin : ∀ w ∈ u_ws RX0 TX0 4, w ∈ Ts) (hown : s.vm.findClass own = some m.cls) (hK : KK D cy s) (hT : TW D cy κ G H) (hS : va_S (AA κ) H0 H locs) (hk : κ a = 1) (hlink : (Cond.fieldLink own index "PlyPlates$BreakLog" "steps" "I").before args s = true) (hdg : decode cc pc = .ok (.putfield index, 3)) {x : Int32} (hv : 0 ≤ x.toInt ∧ x.toInt ≤ 24)
    (kk : ∀ (H1 : Heap) (locs1 : List Loc), TW D cy κ (szG G a x) H1 → va_S (AA κ) H0 H1 locs1 → W p l e R s m args below meth c H1 locs1 cells slots Q (F0 m (pc + 3) ls rest)) : W p l e R s m args below meth c H locs cells slots Q (F0 m pc ls (.int x :: .ref a :: rest)) :=
  tw_putG (szG G a x) (ci := 0) (C := RX0) (T := TX0) (N := 4) hexec hb hts hin tyX0 tyX0_ok nmX0 hown hK hT hS hk (by decide) rfl rfl 3 (by decide) rfl hlink rfl (v := .int x) rfl rfl hdg ⟨x, rfl, (if_pos rfl : (szG G a x).1 (1000 + a) = x).symm, hv⟩ (fun b c' j w hb' hj hn h => fsp_sz1 hb' hj hk hn h) (fun K j w _ hj h => asp_sz hj h) kk
end TWZ
