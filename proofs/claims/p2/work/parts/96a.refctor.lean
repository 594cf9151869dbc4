/-! CONSTRUCTION of the reference: arrays of which there is one stay raw till the end -/
section RAWI
variable {p : Program} {l : Launch} {e : Env} {R : Room} {s : State} {m : MethodId} {args : Array Value} {below : List Frame} {meth : Method} {c : Code} {H : Heap} {locs : List Loc} {cells slots : Nat} {Q : State → Prop}
variable {cc : ByteArray} {pc : Nat} {ls : Array Slot} {rest : List Value} {D : va_G} {cy : Nat → ClassId} {κ0 κ : Nat → Nat} {sz h0 ci : Nat} {H0 : Heap} {V : Nat → Value} {ρ : Nat → Option Cell}
theorem CI.raw {H1 : Heap} {cell : Cell} (hC : CI D cy κ0 sz h0 ci κ ρ V H) (hz : H1.size = H.size + 1) (hq : ∀ q : Nat, q < H.size → H1[q]? = H[q]?) (hc : H1[H.size]? = some cell) : CI D cy κ0 sz h0 ci κ (va_up ρ H.size (some cell)) V H1 ∧ ρ H.size = none := by
  obtain ⟨hT, ho, k0, hx, hnew, hsing, hsz, hlt, hρ⟩ := hC
  have hρn : ρ H.size = none := by
    cases e : ρ H.size with
    | none => rfl
    | some cell => exact absurd (Array.getElem?_eq_some_iff.mp (hρ _ cell e).1).1 (by omega)
  refine ⟨⟨hT.kept (fun b hb => hq b (hT.lt hb)), ho.kept (hq h0 (by omega)), k0, hx, hnew, hsing, by omega, hlt, fun a cell2 h => ?_⟩, hρn⟩
  by_cases e : a = H.size
  · rw [e, show va_up ρ H.size (some cell) H.size = some cell from if_pos rfl] at h
    rw [e, ← h]
    exact ⟨hc, hT.none (Nat.le_refl _), hsz⟩
  · rw [show va_up ρ H.size (some cell) a = ρ a from if_neg e] at h
    obtain ⟨r1, r2, r3⟩ := hρ a cell2 h
    exact ⟨by rw [hq a (Array.getElem?_eq_some_iff.mp r1).1]; exact r1, r2, r3⟩
theorem ci_rawI (hexec : p.tables.exec = Jvm.exec) (hb : c.code = cc) (harr : (Cond.arrayClass .int).before args s = true) (hK : KK D cy s) (hC : CI D cy κ0 sz h0 ci κ ρ V H) (hS : va_S (AC κ0 h0 sz) H0 H locs) {n : Int32} {N : Nat} (hn : ¬ n < 0) (hNn : n.toNatClampNeg = N) (hby : N * 4 ≤ 536870912) (hcells : cells + 1 ≤ R.cells) (hslots : slots + N ≤ R.slots) (hdg : decode cc pc = .ok (.newarray .int, 2))
    (kk : ∀ (q : Nat) (ρ1 : Nat → Option Cell) (H1 : Heap), CI D cy κ0 sz h0 ci κ ρ1 V H1 → ρ1 q = some (arrV (cy 0) N (fun _ => .int 0)) → (∀ b, b ≠ q → ρ1 b = ρ b) → ρ q = none → va_S (AC κ0 h0 sz) H0 H1 locs → W p l e R s m args below meth c H1 locs (cells + 1) (slots + N) Q (F0 m (pc + 2) ls (.ref q :: rest))) : W p l e R s m args below meth c H locs cells slots Q (F0 m pc ls (.int n :: rest)) := by
  refine va_newaK hexec hb (atype := .int) harr rfl hdg rfl hn hNn hby hcells hslots rfl fun H1 cA e1 z1 o1 hAr hNm => ?_
  have hcA : cA = cy 0 := Option.some.inj (hNm.symm.trans (hK.2 0 _ rfl).2)
  subst hcA
  obtain ⟨hC1, hn1⟩ := hC.raw z1 o1 e1
  exact kk H.size _ H1 hC1 (if_pos rfl) (fun b hb => if_neg hb) hn1 ⟨Nat.le_trans hS.1 (by omega), fun x h1 h2 => (o1 x (Nat.lt_of_lt_of_le h1 hS.1)).trans (hS.2.1 x h1 h2), hS.2.2⟩
theorem ci_rawJ (hexec : p.tables.exec = Jvm.exec) (hb : c.code = cc) (harr : (Cond.arrayClass .long).before args s = true) (hK : KK D cy s) (hC : CI D cy κ0 sz h0 ci κ ρ V H) (hS : va_S (AC κ0 h0 sz) H0 H locs) {n : Int32} {N : Nat} (hn : ¬ n < 0) (hNn : n.toNatClampNeg = N) (hby : N * 8 ≤ 536870912) (hcells : cells + 1 ≤ R.cells) (hslots : slots + N ≤ R.slots) (hdg : decode cc pc = .ok (.newarray .long, 2))
    (kk : ∀ (q : Nat) (ρ1 : Nat → Option Cell) (H1 : Heap), CI D cy κ0 sz h0 ci κ ρ1 V H1 → ρ1 q = some (arrV (cy 1) N (fun _ => .long 0)) → (∀ b, b ≠ q → ρ1 b = ρ b) → ρ q = none → va_S (AC κ0 h0 sz) H0 H1 locs → W p l e R s m args below meth c H1 locs (cells + 1) (slots + N) Q (F0 m (pc + 2) ls (.ref q :: rest))) : W p l e R s m args below meth c H locs cells slots Q (F0 m pc ls (.int n :: rest)) := by
  refine va_newaK hexec hb (atype := .long) harr rfl hdg rfl hn hNn hby hcells hslots rfl fun H1 cA e1 z1 o1 hAr hNm => ?_
  have hcA : cA = cy 1 := Option.some.inj (hNm.symm.trans (hK.2 1 _ rfl).2)
  subst hcA
  obtain ⟨hC1, hn1⟩ := hC.raw z1 o1 e1
  exact kk H.size _ H1 hC1 (if_pos rfl) (fun b hb => if_neg hb) hn1 ⟨Nat.le_trans hS.1 (by omega), fun x h1 h2 => (o1 x (Nat.lt_of_lt_of_le h1 hS.1)).trans (hS.2.1 x h1 h2), hS.2.2⟩
end RAWI
