/-! CONSTRUCTION: a new object within a constructor, by its own constructor -/
section CIS
variable {p : Program} {l : Launch} {e : Env} {R : Room} {s : State} {m : MethodId} {args : Array Value} {below : List Frame} {meth : Method} {c : Code} {H : Heap} {locs : List Loc} {cells slots : Nat} {Q : State → Prop}
variable {cc : ByteArray} {pc : Nat} {ls : Array Slot} {rest st As : List Value} {D : va_G} {cy : Nat → ClassId} {κ0 κ : Nat → Nat} {sz h0 ci q K index : Nat} {H0 : Heap} {own : String} {Ts : List Cond} {V V2 : Nat → Value} {ρ : Nat → Option Cell}
theorem ci_newR {C : String} {T : u_T} {N cj : Nat} (hexec : p.tables.exec = Jvm.exec) (hb : c.code = cc) (hts : ∀ w ∈ Ts, w.before args s = true) (hin : ∀ w ∈ u_ws C T N, w ∈ Ts) (ty : Nat → FieldType) (hty : ∀ k, k < N → parseFieldDescriptor (T k).2.2.1 = some (ty k)) (hown : s.vm.findClass own = some m.cls) (hcl : (Cond.classLink own index C).before args s = true) (hinst : (Cond.instantiable C N).before args s = true) (hini : (Cond.initialized C).before args s = true) (hK : KK D cy s) (hC : CI D cy κ0 sz h0 ci κ ρ V H) (hS : va_S (AC κ0 h0 sz) H0 H locs) (hc : vwCl[cj]? = some (C, T, N)) (hN : nF cj = N) (hcells : cells + 1 ≤ R.cells) (hslots : slots + N ≤ R.slots) (hdg : decode cc pc = .ok (.new index, 3))
    (kk : ∀ (q : Nat) (H1 : Heap), CI D cy κ0 sz h0 ci κ ρ V H1 → t_OB q (D.1 cj) (nF cj) (D.2 cj) H1 (fun k => defaultValue (ty k)) → κ q = 0 → q < H1.size → sz ≤ q → ρ q = none → va_S (AC κ0 h0 sz) H0 H1 locs → W p l e R s m args below meth c H1 locs (cells + 1) (slots + N) Q (F0 m (pc + 3) ls (.ref q :: rest))) : W p l e R s m args below meth c H locs cells slots Q (F0 m pc ls rest) := by
  obtain ⟨hT, ho, k0, hx, hnew, hsing, hsz, hlt, hρ⟩ := hC
  refine r_new hexec hb hts hin ty hty hown hcl hinst hini hK hT hS hc hN hcells hslots hdg (fun H1 hT1 hb1 hS1 hq hz => ?_)
  have hρn : ρ H.size = none := by
    cases e : ρ H.size with
    | none => rfl
    | some cell => exact absurd (Array.getElem?_eq_some_iff.mp (hρ _ cell e).1).1 (by omega)
  refine kk H.size H1 ⟨hT1, ho.kept (hq h0 (by omega)), k0, hx, hnew, hsing, by omega, hlt, fun a cell h => ?_⟩ hb1 (hT.none (Nat.le_refl _)) (by omega) hsz hρn hS1
  obtain ⟨r1, r2, r3⟩ := hρ a cell h
  exact ⟨by rw [hq a (Array.getElem?_eq_some_iff.mp r1).1]; exact r1, r2, r3⟩
theorem ci_pre {cj : Nat} (hK : KK D cy s) (hN : NW s) (hC : CI D cy κ0 sz h0 ci κ ρ V H) (hqo : t_OB q (D.1 cj) (nF cj) (D.2 cj) H V2) : PreS s H (va_Pc (.ref q :: As) (CP D cy κ H.size q cj V2)) (.ref q :: As) :=
  ⟨CP.blind, fun U hU hW => ⟨rfl, by rw [hU], by rw [hU]; exact hC.1, va_K.moved hW.alike hK, hN.warm hW, by rw [hU]; exact hqo⟩⟩
theorem ci_ctor {mc ms : Nat} {a9 : Array Value} (hr : va_Run p l e R s m args below meth c H locs cells slots mc ms (F0 m pc ls st) rest (va_Qv (fun κ' => COk κ H.size q K κ') (fun κ' t => CQ D cy κ' t) (AC κ q H.size) a9) (AC κ q H.size)) (hC : CI D cy κ0 sz h0 ci κ ρ V H) (hS : va_S (AC κ0 h0 sz) H0 H locs) (hq0 : sz ≤ q) (hK : ¬ sing K ∨ K = 2) (hρq : ρ q = none)
    (kk : ∀ (κ1 : Nat → Nat) (H1 : Heap) (locs1 : List Loc), CI D cy κ0 sz h0 ci κ1 ρ V H1 → ext κ κ1 → κ1 q = K → va_S (AC κ0 h0 sz) H0 H1 locs1 → W p l e R s m args below meth c H1 locs1 (cells + mc) (slots + ms) Q (F0 m (pc + 3) ls rest)) : W p l e R s m args below meth c H locs cells slots Q (F0 m pc ls st) := by
  have hsz := hC.2.2.2.2.2.2.1
  have hA : ∀ x, AC κ q H.size x → AC κ0 h0 sz x := by
    rintro x (h | h | h)
    · rcases hC.2.2.2.2.1 x h with h2 | h2
      · exact Or.inl h2
      · exact Or.inr (Or.inr h2)
    · exact Or.inr (Or.inr (by omega))
    · exact Or.inr (Or.inr (by omega))
  refine va_callv hr hS (fun x _ h => hA x h) hA (fun κ' t H1 locs1 ht _ hp hB hz hk hS1 => ?_)
  exact kk κ' H1 locs1 (hC.made hq0 hp hK (fun cell h => by rw [hρq] at h; cases h) (by rw [← ht]; exact hB.1) hz hk) hp.1 hp.2.1 hS1
end CIS
