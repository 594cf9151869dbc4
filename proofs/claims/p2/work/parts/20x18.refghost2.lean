/-! more of the reference's exact numbers; printed by a program -/
theorem iteE {α : Type} {c : Prop} [Decidable c] {a b b' : α} (h : ¬ c → b = b') : (if c then a else b) = (if c then a else b') := by
  by_cases q : c
  · rw [if_pos q, if_pos q]
  · rw [if_neg q, if_neg q]; exact h q
theorem fs12_n8 {κ : Nat → Nat} {n3 n4 n5 n6 n7 n8 n8' n9 : Int32} {m0 : Int64} {k : Nat} (hk : k < 30) : fs_12 κ n3 n4 n5 n6 n7 n8 n9 m0 k = fs_12 κ n3 n4 n5 n6 n7 n8' n9 m0 k := by
  unfold fs_12
  refine iteE (fun h0 => ?_)
  refine iteE (fun h1 => ?_)
  refine iteE (fun h2 => ?_)
  refine iteE (fun h3 => ?_)
  refine iteE (fun h4 => ?_)
  refine iteE (fun h5 => ?_)
  refine iteE (fun h6 => ?_)
  refine iteE (fun h7 => ?_)
  refine iteE (fun h8 => ?_)
  refine iteE (fun h9 => ?_)
  refine iteE (fun h10 => ?_)
  refine iteE (fun h11 => ?_)
  refine iteE (fun h12 => ?_)
  refine iteE (fun h13 => ?_)
  refine iteE (fun h14 => ?_)
  refine iteE (fun h15 => ?_)
  refine iteE (fun h16 => ?_)
  refine iteE (fun h17 => ?_)
  refine iteE (fun h18 => ?_)
  exfalso; omega
section TWY
variable {p : Program} {l : Launch} {e : Env} {R : Room} {s : State} {m : MethodId} {args : Array Value} {below : List Frame} {meth : Method} {c : Code} {H : Heap} {locs : List Loc} {cells slots : Nat} {Q : State → Prop}
variable {cc : ByteArray} {pc : Nat} {ls : Array Slot} {rest : List Value} {D : va_G} {cy : Nat → ClassId} {κ : Nat → Nat} {G : Gh} {a : Nat} {H0 : Heap} {own : String} {index : Nat} {Ts : List Cond}
theorem pc_11_26 (hexec : p.tables.exec = Jvm.exec) (hb : c.code = cc) (hts : ∀ w ∈ Ts, w.before args s = true) (hin : ∀ w ∈ u_ws RX11 TX11 31, w ∈ Ts) (hown : s.vm.findClass own = some m.cls) (hK : KK D cy s) (hT : TW D cy κ G H) (hS : va_S (AA κ) H0 H locs) (hk : κ a = 12) (hlink : (Cond.fieldLink own index "PlyPlatesModel" "firstStrength" "I").before args s = true) (hdg : decode cc pc = .ok (.putfield index, 3)) {x : Int32} (hv : True) (kk : ∀ (H1 : Heap) (locs1 : List Loc), TW D cy κ (cG G 7 x) H1 → va_S (AA κ) H0 H1 locs1 → W p l e R s m args below meth c H1 locs1 cells slots Q (F0 m (pc + 3) ls rest)) : W p l e R s m args below meth c H locs cells slots Q (F0 m pc ls (.int x :: .ref a :: rest)) := by
  have ee : ∀ i, i ≠ 7 → (cG G 7 x).1 i = G.1 i := fun i hi => if_neg hi
  refine tw_putG (cG G 7 x) (ci := 11) (C := RX11) (T := TX11) (N := 31) hexec hb hts hin tyX11 tyX11_ok nmX11 hown hK hT hS hk (by decide) rfl rfl 26 (by decide) rfl hlink rfl (v := .int x) rfl rfl hdg ⟨x, rfl, rfl⟩ (fun b c1 j w hb1 hj hn h => ?_) (fun K j w h13 hj h => ?_) kk
  · by_cases e : c1 = 11
    · subst e
      have eb : b = a := hT.2.2 b a (by omega) (by unfold sing; omega)
      subst eb
      have hj2 : j < 31 := hj
      have hj0 : j = 0 ∨ j = 1 ∨ j = 2 ∨ j = 3 ∨ j = 4 ∨ j = 5 ∨ j = 6 ∨ j = 7 ∨ j = 8 ∨ j = 9 ∨ j = 10 ∨ j = 11 ∨ j = 12 ∨ j = 13 ∨ j = 14 ∨ j = 15 ∨ j = 16 ∨ j = 17 ∨ j = 18 ∨ j = 19 ∨ j = 20 ∨ j = 21 ∨ j = 22 ∨ j = 23 ∨ j = 24 ∨ j = 25 ∨ j = 27 ∨ j = 28 ∨ j = 29 ∨ j = 30 := by
        rcases hn with q | q
        · exact absurd rfl q
        · omega
      rcases hj0 with rfl | rfl | rfl | rfl | rfl | rfl | rfl | rfl | rfl | rfl | rfl | rfl | rfl | rfl | rfl | rfl | rfl | rfl | rfl | rfl | rfl | rfl | rfl | rfl | rfl | rfl | rfl | rfl | rfl | rfl <;> exact h
    · have e2 : ¬ c1 + 1 = 12 := by omega
      unfold fsp at h ⊢
      rw [if_neg (c := c1 + 1 = 12) e2] at h ⊢
      rw [ee 2 (by omega), ee 0 (by omega), ee 1 (by omega), ee (1000 + b) (by omega)]
      exact h
  · rw [asp_eq (G := G) (ee 3 (by omega)) (ee 8 (by omega)) (ee 9 (by omega)) (ee (100 + j) (by omega)) (ee (200 + j) (by omega))]; exact h
theorem pc_11_25 (hexec : p.tables.exec = Jvm.exec) (hb : c.code = cc) (hts : ∀ w ∈ Ts, w.before args s = true) (hin : ∀ w ∈ u_ws RX11 TX11 31, w ∈ Ts) (hown : s.vm.findClass own = some m.cls) (hK : KK D cy s) (hT : TW D cy κ G H) (hS : va_S (AA κ) H0 H locs) (hk : κ a = 12) (hlink : (Cond.fieldLink own index "PlyPlatesModel" "firstShare" "J").before args s = true) (hdg : decode cc pc = .ok (.putfield index, 3)) {x : Int64} (hv : True) (kk : ∀ (H1 : Heap) (locs1 : List Loc), TW D cy κ (cL G x) H1 → va_S (AA κ) H0 H1 locs1 → W p l e R s m args below meth c H1 locs1 cells slots Q (F0 m (pc + 3) ls rest)) : W p l e R s m args below meth c H locs cells slots Q (F0 m pc ls (.long x :: .ref a :: rest)) := by
  have ee : ∀ i, i ≠ 100000 → (cL G x).1 i = G.1 i := fun i _ => rfl
  refine tw_putG (cL G x) (ci := 11) (C := RX11) (T := TX11) (N := 31) hexec hb hts hin tyX11 tyX11_ok nmX11 hown hK hT hS hk (by decide) rfl rfl 25 (by decide) rfl hlink rfl (v := .long x) rfl rfl hdg ⟨x, rfl, rfl⟩ (fun b c1 j w hb1 hj hn h => ?_) (fun K j w h13 hj h => ?_) kk
  · by_cases e : c1 = 11
    · subst e
      have eb : b = a := hT.2.2 b a (by omega) (by unfold sing; omega)
      subst eb
      have hj2 : j < 31 := hj
      have hj0 : j = 0 ∨ j = 1 ∨ j = 2 ∨ j = 3 ∨ j = 4 ∨ j = 5 ∨ j = 6 ∨ j = 7 ∨ j = 8 ∨ j = 9 ∨ j = 10 ∨ j = 11 ∨ j = 12 ∨ j = 13 ∨ j = 14 ∨ j = 15 ∨ j = 16 ∨ j = 17 ∨ j = 18 ∨ j = 19 ∨ j = 20 ∨ j = 21 ∨ j = 22 ∨ j = 23 ∨ j = 24 ∨ j = 26 ∨ j = 27 ∨ j = 28 ∨ j = 29 ∨ j = 30 := by
        rcases hn with q | q
        · exact absurd rfl q
        · omega
      rcases hj0 with rfl | rfl | rfl | rfl | rfl | rfl | rfl | rfl | rfl | rfl | rfl | rfl | rfl | rfl | rfl | rfl | rfl | rfl | rfl | rfl | rfl | rfl | rfl | rfl | rfl | rfl | rfl | rfl | rfl | rfl <;> exact h
    · have e2 : ¬ c1 + 1 = 12 := by omega
      unfold fsp at h ⊢
      rw [if_neg (c := c1 + 1 = 12) e2] at h ⊢
      exact h
  · exact h
theorem pc_11_30 (hexec : p.tables.exec = Jvm.exec) (hb : c.code = cc) (hts : ∀ w ∈ Ts, w.before args s = true) (hin : ∀ w ∈ u_ws RX11 TX11 31, w ∈ Ts) (hown : s.vm.findClass own = some m.cls) (hK : KK D cy s) (hT : TW D cy κ G H) (hS : va_S (AA κ) H0 H locs) (hk : κ a = 12) (hlink : (Cond.fieldLink own index "PlyPlatesModel" "steps" "I").before args s = true) (hdg : decode cc pc = .ok (.putfield index, 3)) {x : Int32} (hv : 0 ≤ x.toInt ∧ x.toInt ≤ 24 ∧ x.toInt ≤ (G.1 8).toInt) (kk : ∀ (H1 : Heap) (locs1 : List Loc), TW D cy κ (cG G 6 x) H1 → va_S (AA κ) H0 H1 locs1 → W p l e R s m args below meth c H1 locs1 cells slots Q (F0 m (pc + 3) ls rest)) : W p l e R s m args below meth c H locs cells slots Q (F0 m pc ls (.int x :: .ref a :: rest)) := by
  have ee : ∀ i, i ≠ 6 → (cG G 6 x).1 i = G.1 i := fun i hi => if_neg hi
  refine tw_putG (cG G 6 x) (ci := 11) (C := RX11) (T := TX11) (N := 31) hexec hb hts hin tyX11 tyX11_ok nmX11 hown hK hT hS hk (by decide) rfl rfl 30 (by decide) rfl hlink rfl (v := .int x) rfl rfl hdg ⟨x, rfl, rfl, hv⟩ (fun b c1 j w hb1 hj hn h => ?_) (fun K j w h13 hj h => ?_) kk
  · by_cases e : c1 = 11
    · subst e
      have eb : b = a := hT.2.2 b a (by omega) (by unfold sing; omega)
      subst eb
      have hj2 : j < 31 := hj
      have hj0 : j = 0 ∨ j = 1 ∨ j = 2 ∨ j = 3 ∨ j = 4 ∨ j = 5 ∨ j = 6 ∨ j = 7 ∨ j = 8 ∨ j = 9 ∨ j = 10 ∨ j = 11 ∨ j = 12 ∨ j = 13 ∨ j = 14 ∨ j = 15 ∨ j = 16 ∨ j = 17 ∨ j = 18 ∨ j = 19 ∨ j = 20 ∨ j = 21 ∨ j = 22 ∨ j = 23 ∨ j = 24 ∨ j = 25 ∨ j = 26 ∨ j = 27 ∨ j = 28 ∨ j = 29 := by
        rcases hn with q | q
        · exact absurd rfl q
        · omega
      rcases hj0 with rfl | rfl | rfl | rfl | rfl | rfl | rfl | rfl | rfl | rfl | rfl | rfl | rfl | rfl | rfl | rfl | rfl | rfl | rfl | rfl | rfl | rfl | rfl | rfl | rfl | rfl | rfl | rfl | rfl | rfl <;> exact h
    · have e2 : ¬ c1 + 1 = 12 := by omega
      unfold fsp at h ⊢
      rw [if_neg (c := c1 + 1 = 12) e2] at h ⊢
      rw [ee 2 (by omega), ee 0 (by omega), ee 1 (by omega), ee (1000 + b) (by omega)]
      exact h
  · rw [asp_eq (G := G) (ee 3 (by omega)) (ee 8 (by omega)) (ee 9 (by omega)) (ee (100 + j) (by omega)) (ee (200 + j) (by omega))]; exact h
theorem pc_11_0 (hexec : p.tables.exec = Jvm.exec) (hb : c.code = cc) (hts : ∀ w ∈ Ts, w.before args s = true) (hin : ∀ w ∈ u_ws RX11 TX11 31, w ∈ Ts) (hown : s.vm.findClass own = some m.cls) (hK : KK D cy s) (hT : TW D cy κ G H) (hS : va_S (AA κ) H0 H locs) (hk : κ a = 12) (hlink : (Cond.fieldLink own index "PlyPlatesModel" "stuffs" "I").before args s = true) (hdg : decode cc pc = .ok (.putfield index, 3)) {x : Int32} (hv : 0 ≤ x.toInt ∧ x.toInt ≤ 3 ∧ 5 * x.toInt ≤ (G.1 9).toInt ∧ 1 ≤ x.toInt ∧ (G.1 3).toInt < x.toInt) (kk : ∀ (H1 : Heap) (locs1 : List Loc), TW D cy κ (cG G 3 x) H1 → va_S (AA κ) H0 H1 locs1 → W p l e R s m args below meth c H1 locs1 cells slots Q (F0 m (pc + 3) ls rest)) : W p l e R s m args below meth c H locs cells slots Q (F0 m pc ls (.int x :: .ref a :: rest)) := by
  have ee : ∀ i, i ≠ 3 → (cG G 3 x).1 i = G.1 i := fun i hi => if_neg hi
  refine tw_putG (cG G 3 x) (ci := 11) (C := RX11) (T := TX11) (N := 31) hexec hb hts hin tyX11 tyX11_ok nmX11 hown hK hT hS hk (by decide) rfl rfl 0 (by decide) rfl hlink rfl (v := .int x) rfl rfl hdg ⟨x, rfl, rfl, hv.1, hv.2.1, hv.2.2.1⟩ (fun b c1 j w hb1 hj hn h => ?_) (fun K j w h13 hj h => ?_) kk
  · by_cases e : c1 = 11
    · subst e
      have eb : b = a := hT.2.2 b a (by omega) (by unfold sing; omega)
      subst eb
      have hj2 : j < 31 := hj
      have hj0 : j = 1 ∨ j = 2 ∨ j = 3 ∨ j = 4 ∨ j = 5 ∨ j = 6 ∨ j = 7 ∨ j = 8 ∨ j = 9 ∨ j = 10 ∨ j = 11 ∨ j = 12 ∨ j = 13 ∨ j = 14 ∨ j = 15 ∨ j = 16 ∨ j = 17 ∨ j = 18 ∨ j = 19 ∨ j = 20 ∨ j = 21 ∨ j = 22 ∨ j = 23 ∨ j = 24 ∨ j = 25 ∨ j = 26 ∨ j = 27 ∨ j = 28 ∨ j = 29 ∨ j = 30 := by
        rcases hn with q | q
        · exact absurd rfl q
        · omega
      rcases hj0 with rfl | rfl | rfl | rfl | rfl | rfl | rfl | rfl | rfl | rfl | rfl | rfl | rfl | rfl | rfl | rfl | rfl | rfl | rfl | rfl | rfl | rfl | rfl | rfl | rfl | rfl | rfl | rfl | rfl | rfl <;> exact h
    · have e2 : ¬ c1 + 1 = 12 := by omega
      unfold fsp at h ⊢
      rw [if_neg (c := c1 + 1 = 12) e2] at h ⊢
      rw [ee 2 (by omega), ee 0 (by omega), ee 1 (by omega), ee (1000 + b) (by omega)]
      exact h
  · by_cases hK2 : K = 50 ∨ K = 51 ∨ K = 52 ∨ K = 53 ∨ K = 54
    · have e3 : (cG G 3 x).1 3 = x := rfl
      rcases hK2 with rfl | rfl | rfl | rfl | rfl
      · obtain ⟨z, e1, e2, e4, e5⟩ := h
        exact ⟨z, e1, by rw [ee (100 + j) (by omega)]; exact e2, e4, fun q => by rw [e3] at q; omega⟩
      · obtain ⟨z, e1, e2, e4⟩ := h
        exact ⟨z, e1, e2, by rw [e3]; omega⟩
      · obtain ⟨z, e1, e2⟩ := h
        exact ⟨z, e1, by rw [ee (200 + j) (by omega)]; exact e2⟩
      · obtain ⟨y, e1, e2⟩ := h
        exact ⟨y, e1, by rw [ee 9 (by omega)]; exact e2⟩
      · obtain ⟨y, e1, e2⟩ := h
        exact ⟨y, e1, by rw [ee 8 (by omega)]; exact e2⟩
    · rw [asp_no hK2 G] at h
      rw [asp_no hK2]
      exact h
theorem ag_53 {z : Int32} (hexec : p.tables.exec = Jvm.exec) (hb : c.code = cc) (hK : KK D cy s) (hT : TW D cy κ G H) (hS : va_S (AA κ) H0 H locs) (hk : κ a = 53) {i x : Int32} (hin : 0 ≤ i.toInt ∧ i.toInt < 15) (hdg : decode cc pc = .ok (.iastore, 1)) (hv : 1 ≤ x.toInt ∧ z.toInt = i.toInt + 1 ∧ i.toInt ≤ (G.1 9).toInt ∧ 5 * (G.1 3).toInt ≤ i.toInt + 1)
    (kk : ∀ (H1 : Heap) (locs1 : List Loc), TW D cy κ (cG G 9 z) H1 → va_S (AA κ) H0 H1 locs1 → W p l e R s m args below meth c H1 locs1 cells slots Q (F0 m (pc + 1) ls rest)) : W p l e R s m args below meth c H locs cells slots Q (F0 m pc ls (.int x :: .int i :: .ref a :: rest)) := by
  have ee : ∀ j, j ≠ 9 → (cG G 9 z).1 j = G.1 j := fun j hj => if_neg hj
  have e9 : (cG G 9 z).1 9 = z := rfl
  refine tw_iasG (cG G 9 z) (K := 53) (n := 15) hexec hb hK hT hS hk (by decide) (by unfold sing; omega) rfl rfl hin hdg ⟨x, rfl, fun _ => hv.1⟩ (fun j w hj hne h => ?_) (fun K' k b w h => ?_) (fun K' j w hne h13 hj h => ?_) kk
  · obtain ⟨y, e1, e2⟩ := h
    exact ⟨y, e1, fun q => e2 (by rw [e9] at q; omega)⟩
  · unfold fsp at h ⊢
    rw [ee 2 (by omega), ee 0 (by omega), ee 1 (by omega), ee (1000 + b) (by omega), ee 3 (by omega), ee 4 (by omega), ee 5 (by omega), ee 6 (by omega), ee 7 (by omega), ee 8 (by omega), e9]
    by_cases q2 : K' = 2
    · rw [if_pos q2] at h ⊢; exact h
    · rw [if_neg q2] at h ⊢
      by_cases q11 : K' = 11
      · rw [if_pos q11] at h ⊢; exact h
      · rw [if_neg q11] at h ⊢
        by_cases q12 : K' = 12
        · rw [if_pos q12] at h ⊢
          unfold fs_12 at h ⊢
          by_cases k0 : k = 0
          · rw [if_pos k0] at h ⊢
            obtain ⟨y, e1, e2, e3, e4, e5⟩ := h
            exact ⟨y, e1, e2, e3, e4, by rw [e2]; omega⟩
          · rw [if_neg k0] at h ⊢; exact h
        · rw [if_neg q12] at h ⊢; exact h
  · by_cases hK2 : K' = 50 ∨ K' = 51 ∨ K' = 52 ∨ K' = 53 ∨ K' = 54
    · rcases hK2 with rfl | rfl | rfl | rfl | rfl
      · obtain ⟨y, e1, e2⟩ := h
        exact ⟨y, e1, by rw [ee (100 + j) (by omega), ee 3 (by omega)]; exact e2⟩
      · obtain ⟨y, e1, e2⟩ := h
        exact ⟨y, e1, by rw [ee 3 (by omega)]; exact e2⟩
      · obtain ⟨y, e1, e2⟩ := h
        exact ⟨y, e1, by rw [ee (200 + j) (by omega)]; exact e2⟩
      · exact absurd rfl hne
      · obtain ⟨y, e1, e2⟩ := h
        exact ⟨y, e1, by rw [ee 8 (by omega)]; exact e2⟩
    · rw [asp_no hK2 G] at h
      rw [asp_no hK2]
      exact h
set_option maxRecDepth 100000 in
theorem ag_54 {z : Int32} (hexec : p.tables.exec = Jvm.exec) (hb : c.code = cc) (hK : KK D cy s) (hT : TW D cy κ G H) (hS : va_S (AA κ) H0 H locs) (hk : κ a = 54) {i : Int32} {x : Int64} (hin : 0 ≤ i.toInt ∧ i.toInt < 30) (hdg : decode cc pc = .ok (.lastore, 1)) (hv : x.toInt ≠ 0 ∧ z.toInt = i.toInt + 1 ∧ i.toInt ≤ (G.1 8).toInt ∧ (G.1 6).toInt ≤ i.toInt + 1)
    (kk : ∀ (H1 : Heap) (locs1 : List Loc), TW D cy κ (cG G 8 z) H1 → va_S (AA κ) H0 H1 locs1 → W p l e R s m args below meth c H1 locs1 cells slots Q (F0 m (pc + 1) ls rest)) : W p l e R s m args below meth c H locs cells slots Q (F0 m pc ls (.long x :: .int i :: .ref a :: rest)) := by
  have ee : ∀ j, j ≠ 8 → (cG G 8 z).1 j = G.1 j := fun j hj => if_neg hj
  have e9 : (cG G 8 z).1 8 = z := rfl
  refine tw_lasG (cG G 8 z) (K := 54) (n := 30) hexec hb hK hT hS hk (by decide) (by unfold sing; omega) rfl rfl hin hdg ⟨x, rfl, fun _ => hv.1⟩ (fun j w hj hne h => ?_) (fun b c1 k w hb1 hk1 h => ?_) (fun K' j w hne h13 hj h => ?_) kk
  · obtain ⟨y, e1, e2⟩ := h
    exact ⟨y, e1, fun q => e2 (by rw [e9] at q; omega)⟩
  · by_cases q12 : c1 = 11
    · subst q12
      have hk2 : k < 31 := hk1
      show fs_12 κ ((cG G 8 z).1 3) ((cG G 8 z).1 4) ((cG G 8 z).1 5) ((cG G 8 z).1 6) ((cG G 8 z).1 7) ((cG G 8 z).1 8) ((cG G 8 z).1 9) ((cG G 8 z).2 0) k w
      have h : fs_12 κ (G.1 3) (G.1 4) (G.1 5) (G.1 6) (G.1 7) (G.1 8) (G.1 9) (G.2 0) k w := h
      rw [ee 3 (by omega), ee 4 (by omega), ee 5 (by omega), ee 6 (by omega), ee 7 (by omega), ee 9 (by omega), e9]
      by_cases h30 : k < 30
      · rw [fs12_n8 (n8' := G.1 8) h30]; exact h
      · have e30 : k = 30 := by omega
        subst e30
        obtain ⟨y, e1, e2, e3, e4, e5⟩ := h
        exact ⟨y, e1, e2, e3, e4, by rw [e2]; omega⟩
    · have e2 : ¬ c1 + 1 = 12 := by omega
      unfold fsp at h ⊢
      rw [if_neg (c := c1 + 1 = 12) e2] at h ⊢
      rw [ee 2 (by omega), ee 0 (by omega), ee 1 (by omega), ee (1000 + b) (by omega)]
      exact h
  · by_cases hK2 : K' = 50 ∨ K' = 51 ∨ K' = 52 ∨ K' = 53 ∨ K' = 54
    · rcases hK2 with rfl | rfl | rfl | rfl | rfl
      · obtain ⟨y, e1, e2⟩ := h
        exact ⟨y, e1, by rw [ee (100 + j) (by omega), ee 3 (by omega)]; exact e2⟩
      · obtain ⟨y, e1, e2⟩ := h
        exact ⟨y, e1, by rw [ee 3 (by omega)]; exact e2⟩
      · obtain ⟨y, e1, e2⟩ := h
        exact ⟨y, e1, by rw [ee (200 + j) (by omega)]; exact e2⟩
      · obtain ⟨y, e1, e2⟩ := h
        exact ⟨y, e1, by rw [ee 9 (by omega)]; exact e2⟩
      · exact absurd rfl hne
    · rw [asp_no hK2 G] at h
      rw [asp_no hK2]
      exact h
end TWY
