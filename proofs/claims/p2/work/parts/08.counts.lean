/-! counts are written; printed by wip/p5/gen.py -/
def cG (G : Gh) (i : Nat) (x : Int32) : Gh := (fun j => if j = i then x else G.1 j, G.2)
section TWQ
variable {p : Program} {l : Launch} {e : Env} {R : Room} {s : State} {m : MethodId} {args : Array Value} {below : List Frame} {meth : Method} {c : Code} {H : Heap} {locs : List Loc} {cells slots : Nat} {Q : State → Prop}
variable {cc : ByteArray} {pc : Nat} {ls : Array Slot} {rest : List Value} {D : va_G} {cy : Nat → ClassId} {κ : Nat → Nat} {G : Gh} {a : Nat} {H0 : Heap} {own : String} {index : Nat} {Ts : List Cond}
theorem pc_10_9 (hexec : p.tables.exec = Jvm.exec) (hb : c.code = cc) (hts : ∀ w ∈ Ts, w.before args s = true) (hin : ∀ w ∈ u_ws RX10 TX10 11, w ∈ Ts) (hown : s.vm.findClass own = some m.cls) (hK : KK D cy s) (hT : TW D cy κ G H) (hS : va_S (AA κ) H0 H locs) (hk : κ a = 11) (hlink : (Cond.fieldLink own index "PlyPlates" "stuffCount" "I").before args s = true) (hdg : decode cc pc = .ok (.putfield index, 3)) {x : Int32} (hv : 0 ≤ x.toInt ∧ x.toInt ≤ 3) (kk : ∀ (H1 : Heap) (locs1 : List Loc), TW D cy κ (cG G 0 x) H1 → va_S (AA κ) H0 H1 locs1 → W p l e R s m args below meth c H1 locs1 cells slots Q (F0 m (pc + 3) ls rest)) : W p l e R s m args below meth c H locs cells slots Q (F0 m pc ls (.int x :: .ref a :: rest)) := by
  have ee : ∀ i, i ≠ 0 → (cG G 0 x).1 i = G.1 i := fun i hi => if_neg hi
  refine tw_putG (cG G 0 x) (ci := 10) (C := RX10) (T := TX10) (N := 11) hexec hb hts hin tyX10 tyX10_ok nmX10 hown hK hT hS hk (by decide) rfl rfl 9 (by decide) rfl hlink rfl (v := .int x) rfl rfl hdg ⟨x, rfl, rfl, hv⟩ (fun b c1 j w hb1 hj hn h => ?_) (fun K j w _ _ h => ?_) kk
  · by_cases e : c1 = 10
    · subst e
      have eb : b = a := hT.2.2 b a (by omega) (by unfold sing; omega)
      subst eb
      have hj2 : j < 11 := hj
      have hj0 : j = 0 ∨ j = 1 ∨ j = 2 ∨ j = 3 ∨ j = 4 ∨ j = 5 ∨ j = 6 ∨ j = 7 ∨ j = 8 ∨ j = 10 := by
        rcases hn with q | q
        · exact absurd rfl q
        · omega
      rcases hj0 with rfl | rfl | rfl | rfl | rfl | rfl | rfl | rfl | rfl | rfl <;> exact h
    · have e2 : ¬ c1 + 1 = 11 := by omega
      unfold fsp at h ⊢
      rw [if_neg (c := c1 + 1 = 11) e2] at h ⊢
      rw [ee 2 (by omega), ee 3 (by omega), ee 4 (by omega), ee 5 (by omega), ee 6 (by omega), ee 7 (by omega), ee 8 (by omega), ee 9 (by omega)]
      rw [ee (1000 + b) (by omega)]
      exact h
  · rw [asp_eq (G := G) (ee 3 (by omega)) (ee 8 (by omega)) (ee 9 (by omega)) (ee (100 + j) (by omega)) (ee (200 + j) (by omega))]; exact h
theorem pc_10_10 (hexec : p.tables.exec = Jvm.exec) (hb : c.code = cc) (hts : ∀ w ∈ Ts, w.before args s = true) (hin : ∀ w ∈ u_ws RX10 TX10 11, w ∈ Ts) (hown : s.vm.findClass own = some m.cls) (hK : KK D cy s) (hT : TW D cy κ G H) (hS : va_S (AA κ) H0 H locs) (hk : κ a = 11) (hlink : (Cond.fieldLink own index "PlyPlates" "plateCount" "I").before args s = true) (hdg : decode cc pc = .ok (.putfield index, 3)) {x : Int32} (hv : 0 ≤ x.toInt ∧ x.toInt ≤ 4) (kk : ∀ (H1 : Heap) (locs1 : List Loc), TW D cy κ (cG G 1 x) H1 → va_S (AA κ) H0 H1 locs1 → W p l e R s m args below meth c H1 locs1 cells slots Q (F0 m (pc + 3) ls rest)) : W p l e R s m args below meth c H locs cells slots Q (F0 m pc ls (.int x :: .ref a :: rest)) := by
  have ee : ∀ i, i ≠ 1 → (cG G 1 x).1 i = G.1 i := fun i hi => if_neg hi
  refine tw_putG (cG G 1 x) (ci := 10) (C := RX10) (T := TX10) (N := 11) hexec hb hts hin tyX10 tyX10_ok nmX10 hown hK hT hS hk (by decide) rfl rfl 10 (by decide) rfl hlink rfl (v := .int x) rfl rfl hdg ⟨x, rfl, rfl, hv⟩ (fun b c1 j w hb1 hj hn h => ?_) (fun K j w _ _ h => ?_) kk
  · by_cases e : c1 = 10
    · subst e
      have eb : b = a := hT.2.2 b a (by omega) (by unfold sing; omega)
      subst eb
      have hj2 : j < 11 := hj
      have hj0 : j = 0 ∨ j = 1 ∨ j = 2 ∨ j = 3 ∨ j = 4 ∨ j = 5 ∨ j = 6 ∨ j = 7 ∨ j = 8 ∨ j = 9 := by
        rcases hn with q | q
        · exact absurd rfl q
        · omega
      rcases hj0 with rfl | rfl | rfl | rfl | rfl | rfl | rfl | rfl | rfl | rfl <;> exact h
    · have e2 : ¬ c1 + 1 = 11 := by omega
      unfold fsp at h ⊢
      rw [if_neg (c := c1 + 1 = 11) e2] at h ⊢
      rw [ee 2 (by omega), ee 3 (by omega), ee 4 (by omega), ee 5 (by omega), ee 6 (by omega), ee 7 (by omega), ee 8 (by omega), ee 9 (by omega)]
      rw [ee (1000 + b) (by omega)]
      exact h
  · rw [asp_eq (G := G) (ee 3 (by omega)) (ee 8 (by omega)) (ee 9 (by omega)) (ee (100 + j) (by omega)) (ee (200 + j) (by omega))]; exact h
theorem pc_1_1 (hexec : p.tables.exec = Jvm.exec) (hb : c.code = cc) (hts : ∀ w ∈ Ts, w.before args s = true) (hin : ∀ w ∈ u_ws RX1 TX1 2, w ∈ Ts) (hown : s.vm.findClass own = some m.cls) (hK : KK D cy s) (hT : TW D cy κ G H) (hS : va_S (AA κ) H0 H locs) (hk : κ a = 2) (hlink : (Cond.fieldLink own index "PlyPlates$Cases" "size" "I").before args s = true) (hdg : decode cc pc = .ok (.putfield index, 3)) {x : Int32} (hv : 0 ≤ x.toInt ∧ x.toInt ≤ 4) (kk : ∀ (H1 : Heap) (locs1 : List Loc), TW D cy κ (cG G 2 x) H1 → va_S (AA κ) H0 H1 locs1 → W p l e R s m args below meth c H1 locs1 cells slots Q (F0 m (pc + 3) ls rest)) : W p l e R s m args below meth c H locs cells slots Q (F0 m pc ls (.int x :: .ref a :: rest)) := by
  have ee : ∀ i, i ≠ 2 → (cG G 2 x).1 i = G.1 i := fun i hi => if_neg hi
  refine tw_putG (cG G 2 x) (ci := 1) (C := RX1) (T := TX1) (N := 2) hexec hb hts hin tyX1 tyX1_ok nmX1 hown hK hT hS hk (by decide) rfl rfl 1 (by decide) rfl hlink rfl (v := .int x) rfl rfl hdg ⟨x, rfl, rfl, hv⟩ (fun b c1 j w hb1 hj hn h => ?_) (fun K j w _ _ h => ?_) kk
  · by_cases e : c1 = 1
    · subst e
      have eb : b = a := hT.2.2 b a (by omega) (by unfold sing; omega)
      subst eb
      have hj2 : j < 2 := hj
      have hj0 : j = 0 := by
        rcases hn with q | q
        · exact absurd rfl q
        · omega
      rcases hj0 with rfl <;> exact h
    · have e2 : ¬ c1 + 1 = 2 := by omega
      unfold fsp at h ⊢
      rw [if_neg (c := c1 + 1 = 2) e2] at h ⊢
      rw [ee 0 (by omega), ee 1 (by omega), ee 3 (by omega), ee 4 (by omega), ee 5 (by omega), ee 6 (by omega), ee 7 (by omega), ee 8 (by omega), ee 9 (by omega)]
      rw [ee (1000 + b) (by omega)]
      exact h
  · rw [asp_eq (G := G) (ee 3 (by omega)) (ee 8 (by omega)) (ee 9 (by omega)) (ee (100 + j) (by omega)) (ee (200 + j) (by omega))]; exact h
theorem pc_11_1 (hexec : p.tables.exec = Jvm.exec) (hb : c.code = cc) (hts : ∀ w ∈ Ts, w.before args s = true) (hin : ∀ w ∈ u_ws RX11 TX11 31, w ∈ Ts) (hown : s.vm.findClass own = some m.cls) (hK : KK D cy s) (hT : TW D cy κ G H) (hS : va_S (AA κ) H0 H locs) (hk : κ a = 12) (hlink : (Cond.fieldLink own index "PlyPlatesModel" "plates" "I").before args s = true) (hdg : decode cc pc = .ok (.putfield index, 3)) {x : Int32} (hv : 0 ≤ x.toInt ∧ x.toInt ≤ 4) (kk : ∀ (H1 : Heap) (locs1 : List Loc), TW D cy κ (cG G 4 x) H1 → va_S (AA κ) H0 H1 locs1 → W p l e R s m args below meth c H1 locs1 cells slots Q (F0 m (pc + 3) ls rest)) : W p l e R s m args below meth c H locs cells slots Q (F0 m pc ls (.int x :: .ref a :: rest)) := by
  have ee : ∀ i, i ≠ 4 → (cG G 4 x).1 i = G.1 i := fun i hi => if_neg hi
  refine tw_putG (cG G 4 x) (ci := 11) (C := RX11) (T := TX11) (N := 31) hexec hb hts hin tyX11 tyX11_ok nmX11 hown hK hT hS hk (by decide) rfl rfl 1 (by decide) rfl hlink rfl (v := .int x) rfl rfl hdg ⟨x, rfl, rfl, hv⟩ (fun b c1 j w hb1 hj hn h => ?_) (fun K j w _ _ h => ?_) kk
  · by_cases e : c1 = 11
    · subst e
      have eb : b = a := hT.2.2 b a (by omega) (by unfold sing; omega)
      subst eb
      have hj2 : j < 31 := hj
      have hj0 : j = 0 ∨ j = 2 ∨ j = 3 ∨ j = 4 ∨ j = 5 ∨ j = 6 ∨ j = 7 ∨ j = 8 ∨ j = 9 ∨ j = 10 ∨ j = 11 ∨ j = 12 ∨ j = 13 ∨ j = 14 ∨ j = 15 ∨ j = 16 ∨ j = 17 ∨ j = 18 ∨ j = 19 ∨ j = 20 ∨ j = 21 ∨ j = 22 ∨ j = 23 ∨ j = 24 ∨ j = 25 ∨ j = 26 ∨ j = 27 ∨ j = 28 ∨ j = 29 ∨ j = 30 := by
        rcases hn with q | q
        · exact absurd rfl q
        · omega
      rcases hj0 with rfl | rfl | rfl | rfl | rfl | rfl | rfl | rfl | rfl | rfl | rfl | rfl | rfl | rfl | rfl | rfl | rfl | rfl | rfl | rfl | rfl | rfl | rfl | rfl | rfl | rfl | rfl | rfl | rfl | rfl <;> exact h
    · have e2 : ¬ c1 + 1 = 12 := by omega
      unfold fsp at h ⊢
      rw [if_neg (c := c1 + 1 = 12) e2] at h ⊢
      rw [ee 0 (by omega), ee 1 (by omega), ee 2 (by omega)]
      rw [ee (1000 + b) (by omega)]
      exact h
  · rw [asp_eq (G := G) (ee 3 (by omega)) (ee 8 (by omega)) (ee 9 (by omega)) (ee (100 + j) (by omega)) (ee (200 + j) (by omega))]; exact h
theorem pc_11_2 (hexec : p.tables.exec = Jvm.exec) (hb : c.code = cc) (hts : ∀ w ∈ Ts, w.before args s = true) (hin : ∀ w ∈ u_ws RX11 TX11 31, w ∈ Ts) (hown : s.vm.findClass own = some m.cls) (hK : KK D cy s) (hT : TW D cy κ G H) (hS : va_S (AA κ) H0 H locs) (hk : κ a = 12) (hlink : (Cond.fieldLink own index "PlyPlatesModel" "cases" "I").before args s = true) (hdg : decode cc pc = .ok (.putfield index, 3)) {x : Int32} (hv : 0 ≤ x.toInt ∧ x.toInt ≤ 4) (kk : ∀ (H1 : Heap) (locs1 : List Loc), TW D cy κ (cG G 5 x) H1 → va_S (AA κ) H0 H1 locs1 → W p l e R s m args below meth c H1 locs1 cells slots Q (F0 m (pc + 3) ls rest)) : W p l e R s m args below meth c H locs cells slots Q (F0 m pc ls (.int x :: .ref a :: rest)) := by
  have ee : ∀ i, i ≠ 5 → (cG G 5 x).1 i = G.1 i := fun i hi => if_neg hi
  refine tw_putG (cG G 5 x) (ci := 11) (C := RX11) (T := TX11) (N := 31) hexec hb hts hin tyX11 tyX11_ok nmX11 hown hK hT hS hk (by decide) rfl rfl 2 (by decide) rfl hlink rfl (v := .int x) rfl rfl hdg ⟨x, rfl, rfl, hv⟩ (fun b c1 j w hb1 hj hn h => ?_) (fun K j w _ _ h => ?_) kk
  · by_cases e : c1 = 11
    · subst e
      have eb : b = a := hT.2.2 b a (by omega) (by unfold sing; omega)
      subst eb
      have hj2 : j < 31 := hj
      have hj0 : j = 0 ∨ j = 1 ∨ j = 3 ∨ j = 4 ∨ j = 5 ∨ j = 6 ∨ j = 7 ∨ j = 8 ∨ j = 9 ∨ j = 10 ∨ j = 11 ∨ j = 12 ∨ j = 13 ∨ j = 14 ∨ j = 15 ∨ j = 16 ∨ j = 17 ∨ j = 18 ∨ j = 19 ∨ j = 20 ∨ j = 21 ∨ j = 22 ∨ j = 23 ∨ j = 24 ∨ j = 25 ∨ j = 26 ∨ j = 27 ∨ j = 28 ∨ j = 29 ∨ j = 30 := by
        rcases hn with q | q
        · exact absurd rfl q
        · omega
      rcases hj0 with rfl | rfl | rfl | rfl | rfl | rfl | rfl | rfl | rfl | rfl | rfl | rfl | rfl | rfl | rfl | rfl | rfl | rfl | rfl | rfl | rfl | rfl | rfl | rfl | rfl | rfl | rfl | rfl | rfl | rfl <;> exact h
    · have e2 : ¬ c1 + 1 = 12 := by omega
      unfold fsp at h ⊢
      rw [if_neg (c := c1 + 1 = 12) e2] at h ⊢
      rw [ee 0 (by omega), ee 1 (by omega), ee 2 (by omega)]
      rw [ee (1000 + b) (by omega)]
      exact h
  · rw [asp_eq (G := G) (ee 3 (by omega)) (ee 8 (by omega)) (ee 9 (by omega)) (ee (100 + j) (by omega)) (ee (200 + j) (by omega))]; exact h
end TWQ
