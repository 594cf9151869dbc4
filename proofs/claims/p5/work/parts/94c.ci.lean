/-! CONSTRUCTION: the state within a constructor: an object h0 of class ci, not yet in the world, whose fields are V; κ0 the world at its start, sz its heap's size -/
def CI (D : va_G) (cy : Nat → ClassId) (κ0 : Nat → Nat) (sz h0 ci : Nat) (κ : Nat → Nat) (V : Nat → Value) (H : Heap) : Prop :=
  TW D cy κ Z0 H ∧ t_OB h0 (D.1 ci) (nF ci) (D.2 ci) H V ∧ κ h0 = 0 ∧ ext κ0 κ ∧ (∀ q, κ q ≠ 0 → κ0 q ≠ 0 ∨ sz ≤ q) ∧ (∀ b, sing (κ b) → κ0 b = κ b) ∧ sz ≤ H.size ∧ h0 < sz
def AC (κ0 : Nat → Nat) (h0 sz : Nat) : Nat → Prop := fun q => κ0 q ≠ 0 ∨ q = h0 ∨ sz ≤ q
section CIR
variable {p : Program} {l : Launch} {e : Env} {R : Room} {s : State} {m : MethodId} {args : Array Value} {below : List Frame} {meth : Method} {c : Code} {H : Heap} {locs : List Loc} {cells slots : Nat} {Q : State → Prop}
variable {cc : ByteArray} {pc : Nat} {ls : Array Slot} {rest : List Value} {D : va_G} {cy : Nat → ClassId} {κ0 κ : Nat → Nat} {sz h0 : Nat} {H0 : Heap} {own : String} {index : Nat} {Ts : List Cond} {V : Nat → Value}
theorem ci_newI {ci : Nat} (hexec : p.tables.exec = Jvm.exec) (hb : c.code = cc) (harr : (Cond.arrayClass .int).before args s = true) (hK : KK D cy s) (hC : CI D cy κ0 sz h0 ci κ V H) (hS : va_S (AC κ0 h0 sz) H0 H locs) {n : Int32} {N K : Nat} (h13 : 13 ≤ K) (haT : aT K = 0) (haN : aN K = N) (hsg : ¬ sing K) (hd : ∀ (κ' : Nat → Nat) (j : Nat), j < N → asp κ' Z0 K j (.int 0)) (hn : ¬ n < 0) (hNn : n.toNatClampNeg = N) (hby : N * 4 ≤ 536870912) (hcells : cells + 1 ≤ R.cells) (hslots : slots + N ≤ R.slots) (hdg : decode cc pc = .ok (.newarray .int, 2))
    (kk : ∀ (q : Nat) (κ1 : Nat → Nat) (H1 : Heap), CI D cy κ0 sz h0 ci κ1 V H1 → ext κ κ1 → κ1 q = K → va_S (AC κ0 h0 sz) H0 H1 locs → W p l e R s m args below meth c H1 locs (cells + 1) (slots + N) Q (F0 m (pc + 2) ls (.ref q :: rest))) : W p l e R s m args below meth c H locs cells slots Q (F0 m pc ls (.int n :: rest)) := by
  obtain ⟨hT, ho, k0, hx, hnew, hsing, hsz, hlt⟩ := hC
  refine r_newI hexec hb harr hK hT hS h13 haT haN (fun h => absurd h hsg) hd hn hNn hby hcells hslots hdg (fun H1 hT1 hS1 hq hz => ?_)
  have hk : κ H.size = 0 := hT.none (Nat.le_refl _)
  have hne : h0 ≠ H.size := by omega
  refine kk H.size (va_up κ H.size K) H1 ⟨hT1, ho.kept (hq h0 (by omega)), by rw [show va_up κ H.size K h0 = κ h0 from if_neg hne]; exact k0, hx.tr (ext.up hk), fun q h => ?_, fun b h => ?_, by omega, hlt⟩ (ext.up hk) (if_pos rfl) hS1
  · by_cases e : q = H.size
    · exact Or.inr (by omega)
    · rw [show va_up κ H.size K q = κ q from if_neg e] at h
      exact hnew q h
  · by_cases e : b = H.size
    · rw [e, show va_up κ H.size K H.size = K from if_pos rfl] at h
      exact absurd h hsg
    · rw [show va_up κ H.size K b = κ b from if_neg e] at h ⊢
      exact hsing b h
theorem ci_newJ {ci : Nat} (hexec : p.tables.exec = Jvm.exec) (hb : c.code = cc) (harr : (Cond.arrayClass .long).before args s = true) (hK : KK D cy s) (hC : CI D cy κ0 sz h0 ci κ V H) (hS : va_S (AC κ0 h0 sz) H0 H locs) {n : Int32} {N K : Nat} (h13 : 13 ≤ K) (haT : aT K = 1) (haN : aN K = N) (hsg : ¬ sing K) (hd : ∀ (κ' : Nat → Nat) (j : Nat), j < N → asp κ' Z0 K j (.long 0)) (hn : ¬ n < 0) (hNn : n.toNatClampNeg = N) (hby : N * 8 ≤ 536870912) (hcells : cells + 1 ≤ R.cells) (hslots : slots + N ≤ R.slots) (hdg : decode cc pc = .ok (.newarray .long, 2))
    (kk : ∀ (q : Nat) (κ1 : Nat → Nat) (H1 : Heap), CI D cy κ0 sz h0 ci κ1 V H1 → ext κ κ1 → κ1 q = K → va_S (AC κ0 h0 sz) H0 H1 locs → W p l e R s m args below meth c H1 locs (cells + 1) (slots + N) Q (F0 m (pc + 2) ls (.ref q :: rest))) : W p l e R s m args below meth c H locs cells slots Q (F0 m pc ls (.int n :: rest)) := by
  obtain ⟨hT, ho, k0, hx, hnew, hsing, hsz, hlt⟩ := hC
  refine r_newJ hexec hb harr hK hT hS h13 haT haN (fun h => absurd h hsg) hd hn hNn hby hcells hslots hdg (fun H1 hT1 hS1 hq hz => ?_)
  have hk : κ H.size = 0 := hT.none (Nat.le_refl _)
  have hne : h0 ≠ H.size := by omega
  refine kk H.size (va_up κ H.size K) H1 ⟨hT1, ho.kept (hq h0 (by omega)), by rw [show va_up κ H.size K h0 = κ h0 from if_neg hne]; exact k0, hx.tr (ext.up hk), fun q h => ?_, fun b h => ?_, by omega, hlt⟩ (ext.up hk) (if_pos rfl) hS1
  · by_cases e : q = H.size
    · exact Or.inr (by omega)
    · rw [show va_up κ H.size K q = κ q from if_neg e] at h
      exact hnew q h
  · by_cases e : b = H.size
    · rw [e, show va_up κ H.size K H.size = K from if_pos rfl] at h
      exact absurd h hsg
    · rw [show va_up κ H.size K b = κ b from if_neg e] at h ⊢
      exact hsing b h
theorem ci_put (hexec : p.tables.exec = Jvm.exec) (hb : c.code = cc) {C : String} {T : u_T} {N ci : Nat} (hts : ∀ w ∈ Ts, w.before args s = true) (hin : ∀ w ∈ u_ws C T N, w ∈ Ts) (ty0 : Nat → FieldType) (hty : ∀ k, k < N → parseFieldDescriptor (T k).2.2.1 = some (ty0 k)) (hnm : ∀ a, a < N → ∀ b, b < N → a ≠ b → (T a).2.1 ≠ (T b).2.1) (hown : s.vm.findClass own = some m.cls) (hK : KK D cy s) (hC : CI D cy κ0 sz h0 ci κ V H) (hS : va_S (AC κ0 h0 sz) H0 H locs) (hc : vwCl[ci]? = some (C, T, N)) (hN : nF ci = N) (k : Nat) (hkN : k < N) (hd : (T k).1 = C) (hlink : (Cond.fieldLink own index C (T k).2.1 (T k).2.2.1).before args s = true) (hfin : (T k).2.2.2 = false ∨ ((T k).2.2.2 = true ∧ meth.name = "<init>" ∧ (T k).1 = own)) {v : Value} (hn : narrow (ty0 k) v = v) (hfit : fits (ty0 k) v = true) (hdg : decode cc pc = .ok (.putfield index, 3))
    (kk : ∀ (H1 : Heap) (locs1 : List Loc), CI D cy κ0 sz h0 ci κ (updV V k v) H1 → va_S (AC κ0 h0 sz) H0 H1 locs1 → W p l e R s m args below meth c H1 locs1 cells slots Q (F0 m (pc + 3) ls rest)) : W p l e R s m args below meth c H locs cells slots Q (F0 m pc ls (v :: .ref h0 :: rest)) := by
  obtain ⟨hT, ho, k0, hx, hnew, hsing, hsz, hlt⟩ := hC
  exact r_put hexec hb hts hin ty0 hty hnm hown hK hT hS k0 (Or.inr (Or.inl rfl)) hc hN k hkN hd hlink hfin hn hfit ho hdg (fun H1 locs1 hT1 ho1 hS1 hq hz => kk H1 locs1 ⟨hT1, ho1, k0, hx, hnew, hsing, by omega, hlt⟩ hS1)
end CIR
/-- the end of a constructor: the object comes into the world -/
theorem CI.seal {D : va_G} {cy : Nat → ClassId} {κ0 κ : Nat → Nat} {sz h0 ci : Nat} {V : Nat → Value} {H : Heap} (h : CI D cy κ0 sz h0 ci κ V H) (hci : ci < 12) (hV : ∀ k, k < nF ci → fsp (va_up κ h0 (ci + 1)) Z0 (ci + 1) k h0 (V k)) (hsg : sing (ci + 1) → ∀ b, κ0 b ≠ ci + 1) : TW D cy (va_up κ h0 (ci + 1)) Z0 H ∧ ext κ0 (va_up κ h0 (ci + 1)) ∧ va_up κ h0 (ci + 1) h0 = ci + 1 ∧ (∀ q, va_up κ h0 (ci + 1) q ≠ 0 → κ0 q ≠ 0 ∨ q = h0 ∨ sz ≤ q) ∧ (∀ b, b ≠ h0 → sing (va_up κ h0 (ci + 1) b) → κ0 b = va_up κ h0 (ci + 1) b) := by
  obtain ⟨hT, ho, k0, hx, hnew, hsing, hsz, hlt⟩ := h
  refine ⟨hT.seal k0 (by omega) (fun c hc _ => ?_) (fun h => absurd h (by omega)) (fun hs b hb => ?_), hx.tr (ext.up k0), if_pos rfl, fun q h => ?_, fun b hb h => ?_⟩
  · have e : c = ci := by omega
    subst e
    exact ⟨V, ho, hV⟩
  · have h1 := hsing b (by rw [hb]; exact hs)
    exact hsg hs b (h1.trans hb)
  · by_cases e : q = h0
    · exact Or.inr (Or.inl e)
    · rw [show va_up κ h0 (ci + 1) q = κ q from if_neg e] at h
      rcases hnew q h with q1 | q1
      · exact Or.inl q1
      · exact Or.inr (Or.inr q1)
  · rw [show va_up κ h0 (ci + 1) b = κ b from if_neg hb] at h ⊢
    exact hsing b h
