/-! CONSTRUCTION: the state within a constructor: an object h0 of class ci, not yet in the world, whose fields are V; κ0 the world at its start, sz its heap's size -/
def CI (D : va_G) (cy : Nat → ClassId) (κ0 : Nat → Nat) (sz h0 ci : Nat) (κ : Nat → Nat) (ρ : Nat → Option Cell) (V : Nat → Value) (H : Heap) : Prop :=
  TW D cy κ Z0 H ∧ t_OB h0 (D.1 ci) (nF ci) (D.2 ci) H V ∧ κ h0 = 0 ∧ ext κ0 κ ∧ (∀ q, κ q ≠ 0 → κ0 q ≠ 0 ∨ sz ≤ q) ∧ (∀ b, sing (κ b) → κ0 b = κ b ∨ κ b = 2) ∧ sz ≤ H.size ∧ h0 < sz ∧ (∀ a cell, ρ a = some cell → H[a]? = some cell ∧ κ a = 0 ∧ sz ≤ a)
def AC (κ0 : Nat → Nat) (h0 sz : Nat) : Nat → Prop := fun q => κ0 q ≠ 0 ∨ q = h0 ∨ sz ≤ q
section CIR
variable {p : Program} {l : Launch} {e : Env} {R : Room} {s : State} {m : MethodId} {args : Array Value} {below : List Frame} {meth : Method} {c : Code} {H : Heap} {locs : List Loc} {cells slots : Nat} {Q : State → Prop}
variable {cc : ByteArray} {pc : Nat} {ls : Array Slot} {rest : List Value} {D : va_G} {cy : Nat → ClassId} {κ0 κ : Nat → Nat} {sz h0 : Nat} {H0 : Heap} {own : String} {index : Nat} {Ts : List Cond} {V : Nat → Value} {ρ : Nat → Option Cell}
theorem ci_newI {ci : Nat} (hexec : p.tables.exec = Jvm.exec) (hb : c.code = cc) (harr : (Cond.arrayClass .int).before args s = true) (hK : KK D cy s) (hC : CI D cy κ0 sz h0 ci κ ρ V H) (hS : va_S (AC κ0 h0 sz) H0 H locs) {n : Int32} {N K : Nat} (h13 : 13 ≤ K) (haT : aT K = 0) (haN : aN K = N) (hsg : ¬ sing K) (hd : ∀ (κ' : Nat → Nat) (j : Nat), j < N → asp κ' Z0 K j (.int 0)) (hn : ¬ n < 0) (hNn : n.toNatClampNeg = N) (hby : N * 4 ≤ 536870912) (hcells : cells + 1 ≤ R.cells) (hslots : slots + N ≤ R.slots) (hdg : decode cc pc = .ok (.newarray .int, 2))
    (kk : ∀ (q : Nat) (κ1 : Nat → Nat) (H1 : Heap), CI D cy κ0 sz h0 ci κ1 ρ V H1 → ext κ κ1 → κ1 q = K → va_S (AC κ0 h0 sz) H0 H1 locs → W p l e R s m args below meth c H1 locs (cells + 1) (slots + N) Q (F0 m (pc + 2) ls (.ref q :: rest))) : W p l e R s m args below meth c H locs cells slots Q (F0 m pc ls (.int n :: rest)) := by
  obtain ⟨hT, ho, k0, hx, hnew, hsing, hsz, hlt, hρ⟩ := hC
  refine r_newI hexec hb harr hK hT hS h13 haT haN (fun h => absurd h hsg) hd hn hNn hby hcells hslots hdg (fun H1 hT1 hS1 hq hz => ?_)
  have hk : κ H.size = 0 := hT.none (Nat.le_refl _)
  have hne : h0 ≠ H.size := by omega
  refine kk H.size (va_up κ H.size K) H1 ⟨hT1, ho.kept (hq h0 (by omega)), by rw [show va_up κ H.size K h0 = κ h0 from if_neg hne]; exact k0, hx.tr (ext.up hk), fun q h => ?_, fun b h => ?_, by omega, hlt, fun a cell h => ?_⟩ (ext.up hk) (if_pos rfl) hS1
  · by_cases e : q = H.size
    · exact Or.inr (by omega)
    · rw [show va_up κ H.size K q = κ q from if_neg e] at h
      exact hnew q h
  · by_cases e : b = H.size
    · rw [e, show va_up κ H.size K H.size = K from if_pos rfl] at h
      exact absurd h hsg
    · rw [show va_up κ H.size K b = κ b from if_neg e] at h ⊢
      exact hsing b h
  · obtain ⟨r1, r2, r3⟩ := hρ a cell h
    have hal : a < H.size := (Array.getElem?_eq_some_iff.mp r1).1
    exact ⟨by rw [hq a hal]; exact r1, by rw [show va_up κ H.size K a = κ a from if_neg (by omega)]; exact r2, r3⟩
theorem ci_newJ {ci : Nat} (hexec : p.tables.exec = Jvm.exec) (hb : c.code = cc) (harr : (Cond.arrayClass .long).before args s = true) (hK : KK D cy s) (hC : CI D cy κ0 sz h0 ci κ ρ V H) (hS : va_S (AC κ0 h0 sz) H0 H locs) {n : Int32} {N K : Nat} (h13 : 13 ≤ K) (haT : aT K = 1) (haN : aN K = N) (hsg : ¬ sing K) (hd : ∀ (κ' : Nat → Nat) (j : Nat), j < N → asp κ' Z0 K j (.long 0)) (hn : ¬ n < 0) (hNn : n.toNatClampNeg = N) (hby : N * 8 ≤ 536870912) (hcells : cells + 1 ≤ R.cells) (hslots : slots + N ≤ R.slots) (hdg : decode cc pc = .ok (.newarray .long, 2))
    (kk : ∀ (q : Nat) (κ1 : Nat → Nat) (H1 : Heap), CI D cy κ0 sz h0 ci κ1 ρ V H1 → ext κ κ1 → κ1 q = K → va_S (AC κ0 h0 sz) H0 H1 locs → W p l e R s m args below meth c H1 locs (cells + 1) (slots + N) Q (F0 m (pc + 2) ls (.ref q :: rest))) : W p l e R s m args below meth c H locs cells slots Q (F0 m pc ls (.int n :: rest)) := by
  obtain ⟨hT, ho, k0, hx, hnew, hsing, hsz, hlt, hρ⟩ := hC
  refine r_newJ hexec hb harr hK hT hS h13 haT haN (fun h => absurd h hsg) hd hn hNn hby hcells hslots hdg (fun H1 hT1 hS1 hq hz => ?_)
  have hk : κ H.size = 0 := hT.none (Nat.le_refl _)
  have hne : h0 ≠ H.size := by omega
  refine kk H.size (va_up κ H.size K) H1 ⟨hT1, ho.kept (hq h0 (by omega)), by rw [show va_up κ H.size K h0 = κ h0 from if_neg hne]; exact k0, hx.tr (ext.up hk), fun q h => ?_, fun b h => ?_, by omega, hlt, fun a cell h => ?_⟩ (ext.up hk) (if_pos rfl) hS1
  · by_cases e : q = H.size
    · exact Or.inr (by omega)
    · rw [show va_up κ H.size K q = κ q from if_neg e] at h
      exact hnew q h
  · by_cases e : b = H.size
    · rw [e, show va_up κ H.size K H.size = K from if_pos rfl] at h
      exact absurd h hsg
    · rw [show va_up κ H.size K b = κ b from if_neg e] at h ⊢
      exact hsing b h
  · obtain ⟨r1, r2, r3⟩ := hρ a cell h
    have hal : a < H.size := (Array.getElem?_eq_some_iff.mp r1).1
    exact ⟨by rw [hq a hal]; exact r1, by rw [show va_up κ H.size K a = κ a from if_neg (by omega)]; exact r2, r3⟩
theorem ci_put (hexec : p.tables.exec = Jvm.exec) (hb : c.code = cc) {C : String} {T : u_T} {N ci : Nat} (hts : ∀ w ∈ Ts, w.before args s = true) (hin : ∀ w ∈ u_ws C T N, w ∈ Ts) (ty0 : Nat → FieldType) (hty : ∀ k, k < N → parseFieldDescriptor (T k).2.2.1 = some (ty0 k)) (hnm : ∀ a, a < N → ∀ b, b < N → a ≠ b → (T a).2.1 ≠ (T b).2.1) (hown : s.vm.findClass own = some m.cls) (hK : KK D cy s) (hC : CI D cy κ0 sz h0 ci κ ρ V H) (hS : va_S (AC κ0 h0 sz) H0 H locs) (hc : vwCl[ci]? = some (C, T, N)) (hN : nF ci = N) (k : Nat) (hkN : k < N) (hd : (T k).1 = C) (hlink : (Cond.fieldLink own index C (T k).2.1 (T k).2.2.1).before args s = true) (hfin : (T k).2.2.2 = false ∨ ((T k).2.2.2 = true ∧ meth.name = "<init>" ∧ (T k).1 = own)) {v : Value} (hn : narrow (ty0 k) v = v) (hfit : fits (ty0 k) v = true) (hdg : decode cc pc = .ok (.putfield index, 3))
    (kk : ∀ (H1 : Heap) (locs1 : List Loc), CI D cy κ0 sz h0 ci κ ρ (updV V k v) H1 → va_S (AC κ0 h0 sz) H0 H1 locs1 → W p l e R s m args below meth c H1 locs1 cells slots Q (F0 m (pc + 3) ls rest)) : W p l e R s m args below meth c H locs cells slots Q (F0 m pc ls (v :: .ref h0 :: rest)) := by
  obtain ⟨hT, ho, k0, hx, hnew, hsing, hsz, hlt, hρ⟩ := hC
  exact r_put hexec hb hts hin ty0 hty hnm hown hK hT hS k0 (Or.inr (Or.inl rfl)) hc hN k hkN hd hlink hfin hn hfit ho hdg (fun H1 locs1 hT1 ho1 hS1 hq hz => kk H1 locs1 ⟨hT1, ho1, k0, hx, hnew, hsing, by omega, hlt, fun a cell h => ⟨by rw [hq a (by have := (hρ a cell h).2.2; omega)]; exact (hρ a cell h).1, (hρ a cell h).2⟩⟩ hS1)
theorem ci_get (hexec : p.tables.exec = Jvm.exec) (hb : c.code = cc) {C : String} {T : u_T} {N ci : Nat} (hts : ∀ w ∈ Ts, w.before args s = true) (hin : ∀ w ∈ u_ws C T N, w ∈ Ts) (hown : s.vm.findClass own = some m.cls) (hK : KK D cy s) (hC : CI D cy κ0 sz h0 ci κ ρ V H) (hc : vwCl[ci]? = some (C, T, N)) (hN : nF ci = N) (k : Nat) (hkN : k < N) (hd : (T k).1 = C) (hlink : (Cond.fieldLink own index C (T k).2.1 (T k).2.2.1).before args s = true) {v : Value} (hv : V k = v) (hdg : decode cc pc = .ok (.getfield index, 3))
    (kk : W p l e R s m args below meth c H locs cells slots Q (F0 m (pc + 3) ls (v :: rest))) : W p l e R s m args below meth c H locs cells slots Q (F0 m pc ls (.ref h0 :: rest)) := by
  subst hN; subst hv
  obtain ⟨-, ⟨cell, q1, q2, q3, q4⟩, -⟩ := hC
  obtain ⟨hS, hfc, kC, hkC, hkind⟩ := hK.1 ci _ hc
  obtain ⟨cf, kf, fi, f, hi, hsl⟩ := hS k hkN
  refine W.getf (v := V k) hexec hb hown hlink (by rw [← hd]; exact hi) (u_facts hfc hkC (u_lays hts hin hkN) hi).1 q1 (by rw [q3]; exact fun h => by cases h) ?_ rfl rfl hdg kk
  rw [hsl, q4 k hkN]
/-- a new object whose fields are in order as they are born -/
theorem ci_newS {ci : Nat} (hexec : p.tables.exec = Jvm.exec) (hb : c.code = cc) {C : String} {T : u_T} {N cj : Nat} (hts : ∀ w ∈ Ts, w.before args s = true) (hin : ∀ w ∈ u_ws C T N, w ∈ Ts) (ty : Nat → FieldType) (hty : ∀ k, k < N → parseFieldDescriptor (T k).2.2.1 = some (ty k)) (hown : s.vm.findClass own = some m.cls) (hcl : (Cond.classLink own index C).before args s = true) (hinst : (Cond.instantiable C N).before args s = true) (hini : (Cond.initialized C).before args s = true) (hK : KK D cy s) (hC : CI D cy κ0 sz h0 ci κ ρ V H) (hS : va_S (AC κ0 h0 sz) H0 H locs) (hc : vwCl[cj]? = some (C, T, N)) (hN : nF cj = N) (hcj : cj < 12) (hsg : ¬ sing (cj + 1)) (hd : ∀ (κ' : Nat → Nat) (q k : Nat), k < N → fsp κ' Z0 (cj + 1) k q (defaultValue (ty k))) (hcells : cells + 1 ≤ R.cells) (hslots : slots + N ≤ R.slots) (hdg : decode cc pc = .ok (.new index, 3))
    (kk : ∀ (q : Nat) (κ1 : Nat → Nat) (H1 : Heap), CI D cy κ0 sz h0 ci κ1 ρ V H1 → ext κ κ1 → κ1 q = cj + 1 → va_S (AC κ0 h0 sz) H0 H1 locs → W p l e R s m args below meth c H1 locs (cells + 1) (slots + N) Q (F0 m (pc + 3) ls (.ref q :: rest))) : W p l e R s m args below meth c H locs cells slots Q (F0 m pc ls rest) := by
  obtain ⟨hT, ho, k0, hx, hnew, hsing, hsz, hlt, hρ⟩ := hC
  refine r_new hexec hb hts hin ty hty hown hcl hinst hini hK hT hS hc hN hcells hslots hdg (fun H1 hT1 hb1 hS1 hq hz => ?_)
  have hk : κ H.size = 0 := hT.none (Nat.le_refl _)
  have hne : h0 ≠ H.size := by omega
  refine kk H.size (va_up κ H.size (cj + 1)) H1 ⟨hT1.seal hk (by omega) (fun c2 hc2 _ => ?_) (fun h => absurd h (by omega)) (fun h => absurd h hsg), ho.kept (hq h0 (by omega)), by rw [show va_up κ H.size (cj + 1) h0 = κ h0 from if_neg hne]; exact k0, hx.tr (ext.up hk), fun q h => ?_, fun b h => ?_, by omega, hlt, fun a cell h => ?_⟩ (ext.up hk) (if_pos rfl) hS1
  · have e2 : c2 = cj := by omega
    subst e2
    exact ⟨_, hb1, fun k hk2 => hd _ _ k (by rw [← hN]; exact hk2)⟩
  · by_cases e : q = H.size
    · exact Or.inr (by omega)
    · rw [show va_up κ H.size (cj + 1) q = κ q from if_neg e] at h
      exact hnew q h
  · by_cases e : b = H.size
    · rw [e, show va_up κ H.size (cj + 1) H.size = cj + 1 from if_pos rfl] at h
      exact absurd h hsg
    · rw [show va_up κ H.size (cj + 1) b = κ b from if_neg e] at h ⊢
      exact hsing b h
  · obtain ⟨r1, r2, r3⟩ := hρ a cell h
    have hal : a < H.size := (Array.getElem?_eq_some_iff.mp r1).1
    exact ⟨by rw [hq a hal]; exact r1, by rw [show va_up κ H.size (cj + 1) a = κ a from if_neg (by omega)]; exact r2, r3⟩
/-- behind a call that keeps to the world -/
theorem CI.call {D : va_G} {cy : Nat → ClassId} {κ0 κ : Nat → Nat} {sz h0 ci : Nat} {ρ : Nat → Option Cell} {V : Nat → Value} {H H1 : Heap} (h : CI D cy κ0 sz h0 ci κ ρ V H) (hT1 : TW D cy κ Z0 H1) (hz : H.size ≤ H1.size) (hq : ∀ q : Nat, q < H.size → ¬ AA κ q → H1[q]? = H[q]?) : CI D cy κ0 sz h0 ci κ ρ V H1 := by
  obtain ⟨hT, ho, k0, hx, hnew, hsing, hsz, hlt, hρ⟩ := h
  refine ⟨hT1, ho.kept (hq h0 (by omega) (fun q => q k0)), k0, hx, hnew, hsing, by omega, hlt, fun a cell h => ?_⟩
  obtain ⟨r1, r2, r3⟩ := hρ a cell h
  exact ⟨by rw [hq a (Array.getElem?_eq_some_iff.mp r1).1 (fun q => q r2)]; exact r1, r2, r3⟩
end CIR
/-- the end of a constructor: the object comes into the world -/
theorem CI.seal {D : va_G} {cy : Nat → ClassId} {κ0 κ : Nat → Nat} {sz h0 ci : Nat} {ρ : Nat → Option Cell} {V : Nat → Value} {H : Heap} (h : CI D cy κ0 sz h0 ci κ ρ V H) (hci : ci < 12) (hV : ∀ k, k < nF ci → fsp (va_up κ h0 (ci + 1)) Z0 (ci + 1) k h0 (V k)) (hsg : sing (ci + 1) → ∀ b, κ b ≠ ci + 1) : TW D cy (va_up κ h0 (ci + 1)) Z0 H ∧ ext κ0 (va_up κ h0 (ci + 1)) ∧ va_up κ h0 (ci + 1) h0 = ci + 1 ∧ (∀ q, va_up κ h0 (ci + 1) q ≠ 0 → κ0 q ≠ 0 ∨ q = h0 ∨ sz ≤ q) ∧ (∀ b, b ≠ h0 → sing (va_up κ h0 (ci + 1) b) → κ0 b = va_up κ h0 (ci + 1) b ∨ va_up κ h0 (ci + 1) b = 2) := by
  obtain ⟨hT, ho, k0, hx, hnew, hsing, hsz, hlt, hρ⟩ := h
  refine ⟨hT.seal k0 (by omega) (fun c hc _ => ?_) (fun h => absurd h (by omega)) (fun hs b hb => hsg hs b hb), hx.tr (ext.up k0), if_pos rfl, fun q h => ?_, fun b hb h => ?_⟩
  · have e : c = ci := by omega
    subst e
    exact ⟨V, ho, hV⟩
  · by_cases e : q = h0
    · exact Or.inr (Or.inl e)
    · rw [show va_up κ h0 (ci + 1) q = κ q from if_neg e] at h
      rcases hnew q h with q1 | q1
      · exact Or.inl q1
      · exact Or.inr (Or.inr q1)
  · rw [show va_up κ h0 (ci + 1) b = κ b from if_neg hb] at h ⊢
    exact hsing b h
