/-! CONSTRUCTION: contracts of constructors, how they are begun, ended, called -/
def AOA (U : State) : Prop := (Cond.arrayOver (.array .int)).before #[] U = true
theorem AOA.moved {u U : State} (hvm : u.vm.Alike U.vm) (h : AOA u) : AOA U := by
  obtain ⟨comp, c, k, h1, h2, h3, h4, h5⟩ := arrayOverA_spec (t := .int) h
  obtain ⟨k', hk', he⟩ := hvm.2.2 _ _ h3
  have hi : (U.vm.classes.findIdx? fun (x : Class) => match x.kind with | .array component _ => component == comp | _ => false) = some c := by
    have hbr : U.vm.bare = u.vm.bare := by first | exact hvm.bare_eq | exact hvm.bare_eq.symm
    have e1 := va_idx_bare U.vm comp
    have e2 := va_idx_bare u.vm comp
    rw [hbr] at e1
    exact (e1.symm.trans e2).trans h2
  have hkind : k'.kind = .array comp (.array .int) := by rw [he]; exact h4
  have f1 : U.vm.findClass (FieldType.array .int).toString = some comp := by rw [hvm.findClass]; exact h1
  have f2 : U.vm.findClass ("[" ++ (FieldType.array .int).toString) = some c := by rw [hvm.findClass]; exact h5
  unfold AOA Cond.before Cond.holds
  simp only [Cond.value]
  rw [f1, Option.bind_some]
  refine (congrArg (fun o : Option Nat => (o.bind (fun c => (U.vm.classes[c]?).map fun (k : Class) => match k.kind with | .array _ ty => decide (ty = FieldType.array .int) && decide (U.vm.findClass ("[" ++ (FieldType.array .int).toString) = some c) | _ => false) == some true)) hi).trans ?_
  simp [hk', hkind, f2]
def NW (U : State) : Prop := (va_Nw (.methodLinkNest RX10 25 yX1_init RX10) U ∧ va_Nw (.methodLinkNest RX10 32 yX4_init RX10) U ∧ va_Nw (.methodLinkNest RX10 39 yX0_init RX10) U ∧ va_Nw (.methodLinkNest RX7 21 yX5_init RX10) U ∧ va_Nw (.methodLinkNest RX10 51 yX3_init RX10) U ∧ va_Nw (.methodLinkNest RX10 63 yX9_init RX10) U ∧ va_Nw (.methodLinkNest RX2 11 yX6_init RX10) U) ∧ va_AO RX5 U ∧ va_AO RX7 U ∧ va_AO RX9 U ∧ AOA U
theorem NW.warm {s U : State} (hW : s.WarmedH U.vm) (h : NW s) : NW U := by
  obtain ⟨⟨a1, a2, a3, a4, a5, a6, a7⟩, b1, b2, b3, b4⟩ := h
  exact ⟨⟨a1.warmM hW, a2.warmM hW, a3.warmM hW, a4.warmM hW, a5.warmM hW, a6.warmM hW, a7.warmM hW⟩, b1.moved hW.alike, b2.moved hW.alike, b3.moved hW.alike, b4.moved hW.alike⟩
theorem NW.same {s U : State} (e : s.vm = U.vm) (h : NW s) : NW U := by
  obtain ⟨⟨a1, a2, a3, a4, a5, a6, a7⟩, b1, b2, b3, b4⟩ := h
  have ha : s.vm.Alike U.vm := by rw [e]; exact Vm.Alike.refl _
  exact ⟨⟨a1.same rfl e, a2.same rfl e, a3.same rfl e, a4.same rfl e, a5.same rfl e, a6.same rfl e, a7.same rfl e⟩, b1.moved ha, b2.moved ha, b3.moved ha, b4.moved ha⟩
def COk (κ0 : Nat → Nat) (sz h0 K : Nat) (κ' : Nat → Nat) : Prop := ext κ0 κ' ∧ κ' h0 = K ∧ (∀ q, κ' q ≠ 0 → κ0 q ≠ 0 ∨ q = h0 ∨ sz ≤ q) ∧ (∀ b, b ≠ h0 → sing (κ' b) → κ0 b = κ' b ∨ κ' b = 2)
def CP (D : va_G) (cy : Nat → ClassId) (κ0 : Nat → Nat) (sz h0 ci : Nat) (V : Nat → Value) (U : State) : Prop := U.heap.size = sz ∧ TW D cy κ0 Z0 U.heap ∧ KK D cy U ∧ NW U ∧ t_OB h0 (D.1 ci) (nF ci) (D.2 ci) U.heap V
def CQ (D : va_G) (cy : Nat → ClassId) (κ' : Nat → Nat) (t : State) : Prop := TW D cy κ' Z0 t.heap ∧ KK D cy t
theorem CP.blind {D : va_G} {cy : Nat → ClassId} {κ0 : Nat → Nat} {sz h0 ci : Nat} {V : Nat → Value} {av : List Value} : FrameBlind (va_Pc av (CP D cy κ0 sz h0 ci V)) := by
  intro a U g mk q
  obtain ⟨q0, q1, q2, q3, q4, q5⟩ := q
  exact ⟨q0, q1, q2, va_K.moved (u := U) (U := U.calling g mk a) (Vm.Alike.refl U.vm) q3, NW.same (s := U) (U := U.calling g mk a) rfl q4, q5⟩
section TWK
variable {l : Launch} {D : va_G} {cy : Nat → ClassId} {κ0 : Nat → Nat}
theorem Met.twc {y : MethodName} {ws ws' : List Cond} {rm : Room} {cc : ByteArray} {maxL sz h0 ci mc ms : Nat} {V : Nat → Value} {av : List Value} (hy : plainName y.cls = true) (hn : y.name = "<init>") (hw : ws = Cond.code y cc maxL none :: ws') (hle : (lg_sl av).length ≤ maxL) (hk0 : κ0 h0 = 0) (hlt : h0 < sz)
    (body : ∀ (p : Program) (e : Env) (s : State) (m : MethodId) (args : Array Value) (below : List Frame) (meth : Method) (c : Code) (Q : State → Prop), p.tables.exec = Jvm.exec → c.code = cc → c.maxLocals = maxL → s.vm.findClass y.cls = some m.cls → (∀ w ∈ ws, w.before args s = true) → meth.name = "<init>" → KK D cy s → NW s → CI D cy κ0 sz h0 ci κ0 (fun _ => none) V s.heap →
      (∀ (H : Heap) (locs : List Loc) (ls : Array Slot) (pc : Nat) (κ' : Nat → Nat), decode cc pc = .ok (.return_, 1) → COk κ0 sz h0 (ci + 1) κ' → TW D cy κ' Z0 H → va_S (AC κ0 h0 sz) s.heap H locs → W p l e rm s m args below meth c H locs mc ms Q (F0 m pc ls [])) →
      ∀ ls : Array Slot, lv_has ls maxL (lv_args 0 av) → W p l e rm s m args below meth c s.heap [] 0 0 Q (F0 m 0 ls [])) :
    Met l y ws rm (va_Pc av (CP D cy κ0 sz h0 ci V)) (va_Qv (fun κ' => COk κ0 sz h0 (ci + 1) κ') (fun κ' t => CQ D cy κ' t) (AC κ0 h0 sz)) mc ms (AC κ0 h0 sz) := by
  refine Met.ofW (cc := cc) (maxL := maxL) (ret := none) hy hw ?_
  intro p e s m args below meth c s₁ B hml hv
  obtain ⟨ha, hsz, hT, hK, hN, ho⟩ := hv
  have hlocks := B.notSynchronized
  have hts := atoms_spec (ws := ws) B.pre
  have hname : meth.name = "<init>" := ((name_of_methodNamed B.named B.method).1).trans hn
  have key := body p e s m args below meth c (MQ below (va_Qv (fun κ' => COk κ0 sz h0 (ci + 1) κ') (fun κ' t => CQ D cy κ' t) (AC κ0 h0 sz)) args s mc ms (AC κ0 h0 sz)) B.exec B.bytes hml (findClass_of_methodNamed B.named) hts hname hK hN
    ⟨hT, ho, hk0, ext.rf κ0, fun q h => Or.inl h, fun b _ => Or.inl rfl, by omega, hlt, fun a cell h => by cases h⟩
    (fun H locs ls pc κ' hd hp hT' hS => W.vret B.exec B.bytes B.returns (fun t ht hW => ⟨⟨κ', rfl, hp, by rw [ht]; exact hT', va_K.moved hW.alike hK⟩, hS.F ht⟩) hS.2.2 hd)
  have hl := lv_entry av (n := maxL) hle
  subst ha
  rw [lg_entry_eq]
  exact key _ hl
end TWK
section CIC
variable {p : Program} {l : Launch} {e : Env} {R : Room} {s : State} {m : MethodId} {args : Array Value} {below : List Frame} {meth : Method} {c : Code} {H : Heap} {locs : List Loc} {cells slots : Nat} {Q : State → Prop}
variable {cc : ByteArray} {pc : Nat} {ls : Array Slot} {rest st As : List Value} {D : va_G} {cy : Nat → ClassId} {κ0 κ : Nat → Nat} {sz h0 ci q nL n index maxL : Nat} {H0 : Heap} {own host : String} {Ts ws : List Cond} {V V2 : Nat → Value} {ρ : Nat → Option Cell} {y : MethodName} {rm : Room} {bytes : ByteArray}
/-- a constructor of an object that is in the world already -/
theorem ci_callS (S : CallFix p m c cc nL s args Ts own) (hM : Met l y ws rm (va_Pc [.ref q] (fun U => WW D cy κ Z0 U)) (va_Qv (fun u : Gh => u = Z0 ∧ True) (fun u t => WW D cy κ u t) (AA κ)) 0 0 (AA κ)) (cw : va_CN R s args own index y host bytes maxL none ws rm 0 0 0 ∧ y.name = "<init>" ∧ (Cond.instanceMethod y).before args s = true) (hK : KK D cy s) (hC : CI D cy κ0 sz h0 ci κ ρ V H) (hS : va_S (AC κ0 h0 sz) H0 H locs)
    (hsize : ls.size = nL) (hW : (rest.map fun v => v.category).sum ≤ 8) (hdg : decode cc pc = .ok (.invokespecial index, 3)) (hf : cells ≤ R.cells ∧ slots ≤ R.slots)
    (kk : ∀ (H1 : Heap) (locs1 : List Loc), CI D cy κ0 sz h0 ci κ ρ V H1 → va_S (AC κ0 h0 sz) H0 H1 locs1 → W p l e R s m args below meth c H1 locs1 cells slots Q (F0 m (pc + 3) ls rest)) : W p l e R s m args below meth c H locs cells slots Q (F0 m pc ls (.ref q :: rest)) := by
  have hA : ∀ x, AA κ x → AC κ0 h0 sz x := fun x hx => by
    rcases hC.2.2.2.2.1 x hx with h | h
    · exact Or.inl h
    · exact Or.inr (Or.inr h)
  refine va_callv (va_runIN (As := []) (rest := rest) S hM cw (tw_preS hK hC.1) rfl rfl hsize rfl (lv_room hW) hdg hf) hS (fun x _ h => hA x h) hA (fun u t H1 locs1 ht _ hp hB hz hk hS1 => ?_)
  obtain ⟨hu, -⟩ := hp
  have hT1 := hB.1
  rw [hu, ht] at hT1
  exact kk H1 locs1 (hC.call hT1 hz hk) hS1
/-- behind the constructor of a new object: it is in the world -/
theorem CI.made {H1 : Heap} {κ' : Nat → Nat} {K : Nat} (hC : CI D cy κ0 sz h0 ci κ ρ V H) (hq0 : sz ≤ q) (hok : COk κ H.size q K κ') (hK : ¬ sing K ∨ K = 2) (hρq : ∀ cell, ρ q ≠ some cell) (hT1 : TW D cy κ' Z0 H1) (hz : H.size ≤ H1.size) (hk : ∀ x : Nat, x < H.size → ¬ AC κ q H.size x → H1[x]? = H[x]?) : CI D cy κ0 sz h0 ci κ' ρ V H1 := by
  obtain ⟨hT, ho, k0, hx, hnew, hsing, hsz, hlt, hρ⟩ := hC
  obtain ⟨o1, o2, o3, o4⟩ := hok
  have none' : ∀ x, κ x = 0 → x ≠ q → x < H.size → κ' x = 0 := by
    intro x e1 e2 e3
    by_cases e4 : κ' x = 0
    · exact e4
    · rcases o3 x e4 with h | h | h
      · exact absurd e1 h
      · exact absurd h e2
      · omega
  refine ⟨hT1, ho.kept (hk h0 (by omega) ?_), none' h0 k0 (by omega) (by omega), hx.tr o1, fun x h => ?_, fun b h => ?_, by omega, hlt, fun a cell h => ?_⟩
  · rintro (h | h | h)
    · exact h k0
    · omega
    · omega
  · rcases o3 x h with h | h | h
    · exact hnew x h
    · exact Or.inr (by omega)
    · exact Or.inr (by omega)
  · by_cases e : b = q
    · rw [e, o2] at h ⊢
      rcases hK with h2 | h2
      · exact absurd h h2
      · exact Or.inr h2
    · rcases o4 b e h with h2 | h2
      · have h3 : sing (κ b) := by rw [h2]; exact h
        rcases hsing b h3 with h4 | h4
        · exact Or.inl (h4.trans h2)
        · exact Or.inr (h2.symm.trans h4)
      · exact Or.inr h2
  · obtain ⟨r1, r2, r3⟩ := hρ a cell h
    have hal : a < H.size := (Array.getElem?_eq_some_iff.mp r1).1
    have haq : a ≠ q := fun e => hρq cell (by rw [← e]; exact h)
    have hna : ¬ AC κ q H.size a := by
      rintro (h | h | h)
      · exact h r2
      · exact haq h
      · omega
    exact ⟨by rw [hk a hal hna]; exact r1, none' a r2 haq hal, r3⟩
end CIC
