/-! CONTRACTS over the world: how one is begun, how it ends, how it is called -/
section TWC
variable {l : Launch} {D : va_G} {cy : Nat → ClassId} {κ : Nat → Nat} {G : Gh}
theorem Met.twi {y : MethodName} {ws ws' : List Cond} {rm : Room} {cc : ByteArray} {maxL : Nat} {av : List Value} {post : Int32 → Gh → Prop} (hy : plainName y.cls = true) (hw : ws = Cond.code y cc maxL (some .int) :: ws') (hle : (lg_sl av).length ≤ maxL)
    (body : ∀ (p : Program) (e : Env) (s : State) (m : MethodId) (args : Array Value) (below : List Frame) (meth : Method) (c : Code) (Q : State → Prop), p.tables.exec = Jvm.exec → c.code = cc → c.maxLocals = maxL → s.vm.findClass y.cls = some m.cls → (∀ w ∈ ws, w.before args s = true) → KK D cy s → TW D cy κ G s.heap →
      (∀ (H : Heap) (locs : List Loc) (ls : Array Slot) (pc : Nat) (r : Int32) (G' : Gh), decode cc pc = .ok (.ireturn, 1) → post r G' → TW D cy κ G' H → va_S (AA κ) s.heap H locs → W p l e rm s m args below meth c H locs 0 0 Q (F0 m pc ls [.int r])) →
      ∀ ls : Array Slot, lv_has ls maxL (lv_args 0 av) → W p l e rm s m args below meth c s.heap [] 0 0 Q (F0 m 0 ls [])) :
    Met l y ws rm (va_Pc av (fun U => WW D cy κ G U)) (va_Qi post (fun u t => WW D cy κ u t) (AA κ)) 0 0 (AA κ) := by
  refine Met.ofW (cc := cc) (maxL := maxL) (ret := some .int) hy hw ?_
  intro p e s m args below meth c s₁ B hml hv
  obtain ⟨ha, hT, hK⟩ := hv
  have hlocks := B.notSynchronized
  have hts := atoms_spec (ws := ws) B.pre
  have key := body p e s m args below meth c (MQ below (va_Qi post (fun u t => WW D cy κ u t) (AA κ)) args s 0 0 (AA κ)) B.exec B.bytes hml (findClass_of_methodNamed B.named) hts hK hT
    (fun H locs ls pc r G' hd hp hT' hS => W.iret (v := r) B.exec B.bytes B.returns (fun t ht hW => ⟨⟨r, G', rfl, hp, by rw [ht]; exact hT', va_K.moved hW.alike hK⟩, hS.F ht⟩) hS.2.2 hd)
  have hl := lv_entry av (n := maxL) hle
  subst ha
  rw [lg_entry_eq]
  exact key _ hl
theorem Met.twz {y : MethodName} {ws ws' : List Cond} {rm : Room} {cc : ByteArray} {maxL : Nat} {av : List Value} {post : Int32 → Gh → Prop} (hy : plainName y.cls = true) (hw : ws = Cond.code y cc maxL (some .boolean) :: ws') (hle : (lg_sl av).length ≤ maxL)
    (body : ∀ (p : Program) (e : Env) (s : State) (m : MethodId) (args : Array Value) (below : List Frame) (meth : Method) (c : Code) (Q : State → Prop), p.tables.exec = Jvm.exec → c.code = cc → c.maxLocals = maxL → s.vm.findClass y.cls = some m.cls → (∀ w ∈ ws, w.before args s = true) → KK D cy s → TW D cy κ G s.heap →
      (∀ (H : Heap) (locs : List Loc) (ls : Array Slot) (pc : Nat) (r : Int32) (G' : Gh), decode cc pc = .ok (.ireturn, 1) → (r.toInt = 0 ∨ r.toInt = 1) → post r G' → TW D cy κ G' H → va_S (AA κ) s.heap H locs → W p l e rm s m args below meth c H locs 0 0 Q (F0 m pc ls [.int r])) →
      ∀ ls : Array Slot, lv_has ls maxL (lv_args 0 av) → W p l e rm s m args below meth c s.heap [] 0 0 Q (F0 m 0 ls [])) :
    Met l y ws rm (va_Pc av (fun U => WW D cy κ G U)) (va_Qi post (fun u t => WW D cy κ u t) (AA κ)) 0 0 (AA κ) := by
  refine Met.ofW (cc := cc) (maxL := maxL) (ret := some .boolean) hy hw ?_
  intro p e s m args below meth c s₁ B hml hv
  obtain ⟨ha, hT, hK⟩ := hv
  have hlocks := B.notSynchronized
  have hts := atoms_spec (ws := ws) B.pre
  have key := body p e s m args below meth c (MQ below (va_Qi post (fun u t => WW D cy κ u t) (AA κ)) args s 0 0 (AA κ)) B.exec B.bytes hml (findClass_of_methodNamed B.named) hts hK hT
    (fun H locs ls pc r G' hd hz hp hT' hS => W.zret (v := r) B.exec B.bytes B.returns (by
      rcases hz with h | h
      · have e1 : r = 0 := eqI h
        rw [e1]; rfl
      · have e1 : r = 1 := eqI h
        rw [e1]; rfl) (fun t ht hW => ⟨⟨r, G', rfl, hp, by rw [ht]; exact hT', va_K.moved hW.alike hK⟩, hS.F ht⟩) hS.2.2 hd)
  have hl := lv_entry av (n := maxL) hle
  subst ha
  rw [lg_entry_eq]
  exact key _ hl
theorem Met.twl {y : MethodName} {ws ws' : List Cond} {rm : Room} {cc : ByteArray} {maxL : Nat} {av : List Value} {post : Int64 → Gh → Prop} (hy : plainName y.cls = true) (hw : ws = Cond.code y cc maxL (some .long) :: ws') (hle : (lg_sl av).length ≤ maxL)
    (body : ∀ (p : Program) (e : Env) (s : State) (m : MethodId) (args : Array Value) (below : List Frame) (meth : Method) (c : Code) (Q : State → Prop), p.tables.exec = Jvm.exec → c.code = cc → c.maxLocals = maxL → s.vm.findClass y.cls = some m.cls → (∀ w ∈ ws, w.before args s = true) → KK D cy s → TW D cy κ G s.heap →
      (∀ (H : Heap) (locs : List Loc) (ls : Array Slot) (pc : Nat) (r : Int64) (G' : Gh), decode cc pc = .ok (.lreturn, 1) → post r G' → TW D cy κ G' H → va_S (AA κ) s.heap H locs → W p l e rm s m args below meth c H locs 0 0 Q (F0 m pc ls [.long r])) →
      ∀ ls : Array Slot, lv_has ls maxL (lv_args 0 av) → W p l e rm s m args below meth c s.heap [] 0 0 Q (F0 m 0 ls [])) :
    Met l y ws rm (va_Pc av (fun U => WW D cy κ G U)) (va_Ql post (fun u t => WW D cy κ u t) (AA κ)) 0 0 (AA κ) := by
  refine Met.ofW (cc := cc) (maxL := maxL) (ret := some .long) hy hw ?_
  intro p e s m args below meth c s₁ B hml hv
  obtain ⟨ha, hT, hK⟩ := hv
  have hlocks := B.notSynchronized
  have hts := atoms_spec (ws := ws) B.pre
  have key := body p e s m args below meth c (MQ below (va_Ql post (fun u t => WW D cy κ u t) (AA κ)) args s 0 0 (AA κ)) B.exec B.bytes hml (findClass_of_methodNamed B.named) hts hK hT
    (fun H locs ls pc r G' hd hp hT' hS => W.lret (v := r) B.exec B.bytes B.returns (fun t ht hW => ⟨⟨r, G', rfl, hp, by rw [ht]; exact hT', va_K.moved hW.alike hK⟩, hS.F ht⟩) hS.2.2 hd)
  have hl := lv_entry av (n := maxL) hle
  subst ha
  rw [lg_entry_eq]
  exact key _ hl
theorem Met.twv {y : MethodName} {ws ws' : List Cond} {rm : Room} {cc : ByteArray} {maxL : Nat} {av : List Value} {post : Gh → Prop} (hy : plainName y.cls = true) (hw : ws = Cond.code y cc maxL none :: ws') (hle : (lg_sl av).length ≤ maxL)
    (body : ∀ (p : Program) (e : Env) (s : State) (m : MethodId) (args : Array Value) (below : List Frame) (meth : Method) (c : Code) (Q : State → Prop), p.tables.exec = Jvm.exec → c.code = cc → c.maxLocals = maxL → s.vm.findClass y.cls = some m.cls → (∀ w ∈ ws, w.before args s = true) → KK D cy s → TW D cy κ G s.heap →
      (∀ (H : Heap) (locs : List Loc) (ls : Array Slot) (pc : Nat) (G' : Gh), decode cc pc = .ok (.return_, 1) → post G' → TW D cy κ G' H → va_S (AA κ) s.heap H locs → W p l e rm s m args below meth c H locs 0 0 Q (F0 m pc ls [])) →
      ∀ ls : Array Slot, lv_has ls maxL (lv_args 0 av) → W p l e rm s m args below meth c s.heap [] 0 0 Q (F0 m 0 ls [])) :
    Met l y ws rm (va_Pc av (fun U => WW D cy κ G U)) (va_Qv post (fun u t => WW D cy κ u t) (AA κ)) 0 0 (AA κ) := by
  refine Met.ofW (cc := cc) (maxL := maxL) (ret := none) hy hw ?_
  intro p e s m args below meth c s₁ B hml hv
  obtain ⟨ha, hT, hK⟩ := hv
  have hlocks := B.notSynchronized
  have hts := atoms_spec (ws := ws) B.pre
  have key := body p e s m args below meth c (MQ below (va_Qv post (fun u t => WW D cy κ u t) (AA κ)) args s 0 0 (AA κ)) B.exec B.bytes hml (findClass_of_methodNamed B.named) hts hK hT
    (fun H locs ls pc G' hd hp hT' hS => W.vret B.exec B.bytes B.returns (fun t ht hW => ⟨⟨G', rfl, hp, by rw [ht]; exact hT', va_K.moved hW.alike hK⟩, hS.F ht⟩) hS.2.2 hd)
  have hl := lv_entry av (n := maxL) hle
  subst ha
  rw [lg_entry_eq]
  exact key _ hl
end TWC
section TWD
variable {p : Program} {l : Launch} {e : Env} {R : Room} {s : State} {m : MethodId} {args : Array Value} {below : List Frame} {meth : Method} {c : Code} {H : Heap} {locs : List Loc} {cells slots : Nat} {Q : State → Prop}
variable {cc : ByteArray} {pc : Nat} {ls : Array Slot} {rest st As : List Value} {D : va_G} {cy : Nat → ClassId} {κ : Nat → Nat} {G : Gh} {b nL n index maxL : Nat} {H0 : Heap} {Ts ws : List Cond} {own : String} {y : MethodName} {rm : Room} {bytes : ByteArray} {ret : Option FieldType}
theorem tw_preV (hK : KK D cy s) (hT : TW D cy κ G H) {ci : Nat} {q : vw_C} (hk : κ b = ci + 1) (hci : ci < 12) (hc : vwCl[ci]? = some q) : PreV s H q.1 b (va_Pc (.ref b :: As) (fun U => WW D cy κ G U)) As :=
  ⟨WW.blind, hT.recv hK hk hci hc, fun U hU hW => ⟨rfl, by rw [hU]; exact hT, va_K.moved hW.alike hK⟩⟩
theorem tw_preS (hK : KK D cy s) (hT : TW D cy κ G H) : PreS s H (va_Pc As (fun U => WW D cy κ G U)) As :=
  ⟨WW.blind, fun U hU hW => ⟨rfl, by rw [hU]; exact hT, va_K.moved hW.alike hK⟩⟩
theorem tw_Vi {post : Int32 → Gh → Prop} {q : vw_C} (S : CallFix p m c cc nL s args Ts own) (hM : Met l y ws rm (va_Pc (.ref b :: As) (fun U => WW D cy κ G U)) (va_Qi post (fun u t => WW D cy κ u t) (AA κ)) 0 0 (AA κ)) (cw : CallW R s args own q.1 index y bytes maxL ret ws rm 0 0 n) (hK : KK D cy s) (hT : TW D cy κ G H) (hS : va_S (AA κ) H0 H locs) {ci : Nat} (hk : κ b = ci + 1) (hci : ci < 12) (hc : vwCl[ci]? = some q)
    (hn : As.length = n) (hsize : ls.size = nL) (hst : st = As.reverse ++ .ref b :: rest) (hW : (rest.map fun v => v.category).sum ≤ 8) (hdg : decode cc pc = .ok (.invokevirtual index, 3)) (hf : cells ≤ R.cells ∧ slots ≤ R.slots)
    (kk : ∀ (r : Int32) (u : Gh) (H1 : Heap) (locs1 : List Loc), post r u → TW D cy κ u H1 → va_S (AA κ) H0 H1 locs1 → W p l e R s m args below meth c H1 locs1 cells slots Q (F0 m (pc + 3) ls (.int r :: rest))) : W p l e R s m args below meth c H locs cells slots Q (F0 m pc ls st) :=
  va_calli (va_runV (As := As) (rest := rest) S hM cw (tw_preV hK hT hk hci hc) rfl hn hsize hst (lv_room hW) hdg hf) hS (fun _ _ h => h) (fun _ h => h) (fun r u t H1 locs1 ht _ hp hB _ _ hS1 => kk r u H1 locs1 hp (by rw [← ht]; exact hB.1) hS1)
theorem tw_Vl {post : Int64 → Gh → Prop} {q : vw_C} (S : CallFix p m c cc nL s args Ts own) (hM : Met l y ws rm (va_Pc (.ref b :: As) (fun U => WW D cy κ G U)) (va_Ql post (fun u t => WW D cy κ u t) (AA κ)) 0 0 (AA κ)) (cw : CallW R s args own q.1 index y bytes maxL ret ws rm 0 0 n) (hK : KK D cy s) (hT : TW D cy κ G H) (hS : va_S (AA κ) H0 H locs) {ci : Nat} (hk : κ b = ci + 1) (hci : ci < 12) (hc : vwCl[ci]? = some q)
    (hn : As.length = n) (hsize : ls.size = nL) (hst : st = As.reverse ++ .ref b :: rest) (hW : (rest.map fun v => v.category).sum ≤ 8) (hdg : decode cc pc = .ok (.invokevirtual index, 3)) (hf : cells ≤ R.cells ∧ slots ≤ R.slots)
    (kk : ∀ (r : Int64) (u : Gh) (H1 : Heap) (locs1 : List Loc), post r u → TW D cy κ u H1 → va_S (AA κ) H0 H1 locs1 → W p l e R s m args below meth c H1 locs1 cells slots Q (F0 m (pc + 3) ls (.long r :: rest))) : W p l e R s m args below meth c H locs cells slots Q (F0 m pc ls st) :=
  va_calll (va_runV (As := As) (rest := rest) S hM cw (tw_preV hK hT hk hci hc) rfl hn hsize hst (lv_room hW) hdg hf) hS (fun _ _ h => h) (fun _ h => h) (fun r u t H1 locs1 ht _ hp hB _ _ hS1 => kk r u H1 locs1 hp (by rw [← ht]; exact hB.1) hS1)
theorem tw_Vv {post : Gh → Prop} {q : vw_C} (S : CallFix p m c cc nL s args Ts own) (hM : Met l y ws rm (va_Pc (.ref b :: As) (fun U => WW D cy κ G U)) (va_Qv post (fun u t => WW D cy κ u t) (AA κ)) 0 0 (AA κ)) (cw : CallW R s args own q.1 index y bytes maxL ret ws rm 0 0 n) (hK : KK D cy s) (hT : TW D cy κ G H) (hS : va_S (AA κ) H0 H locs) {ci : Nat} (hk : κ b = ci + 1) (hci : ci < 12) (hc : vwCl[ci]? = some q)
    (hn : As.length = n) (hsize : ls.size = nL) (hst : st = As.reverse ++ .ref b :: rest) (hW : (rest.map fun v => v.category).sum ≤ 8) (hdg : decode cc pc = .ok (.invokevirtual index, 3)) (hf : cells ≤ R.cells ∧ slots ≤ R.slots)
    (kk : ∀ (u : Gh) (H1 : Heap) (locs1 : List Loc), post u → TW D cy κ u H1 → va_S (AA κ) H0 H1 locs1 → W p l e R s m args below meth c H1 locs1 cells slots Q (F0 m (pc + 3) ls rest)) : W p l e R s m args below meth c H locs cells slots Q (F0 m pc ls st) :=
  va_callv (va_runV (As := As) (rest := rest) S hM cw (tw_preV hK hT hk hci hc) rfl hn hsize hst (lv_room hW) hdg hf) hS (fun _ _ h => h) (fun _ h => h) (fun u t H1 locs1 ht _ hp hB _ _ hS1 => kk u H1 locs1 hp (by rw [← ht]; exact hB.1) hS1)
theorem tw_Si {post : Int32 → Gh → Prop} (S : CallFix p m c cc nL s args Ts own) (hM : Met l y ws rm (va_Pc As (fun U => WW D cy κ G U)) (va_Qi post (fun u t => WW D cy κ u t) (AA κ)) 0 0 (AA κ)) (cw : CallB R s args own index y bytes maxL ret ws rm 0 0 n ∧ (Cond.static y).before args s = true) (hK : KK D cy s) (hT : TW D cy κ G H) (hS : va_S (AA κ) H0 H locs)
    (hn : As.length = n) (hsize : ls.size = nL) (hst : st = As.reverse ++ rest) (hW : (rest.map fun v => v.category).sum ≤ 8) (hdg : decode cc pc = .ok (.invokestatic index, 3)) (hf : cells ≤ R.cells ∧ slots ≤ R.slots)
    (kk : ∀ (r : Int32) (u : Gh) (H1 : Heap) (locs1 : List Loc), post r u → TW D cy κ u H1 → va_S (AA κ) H0 H1 locs1 → W p l e R s m args below meth c H1 locs1 cells slots Q (F0 m (pc + 3) ls (.int r :: rest))) : W p l e R s m args below meth c H locs cells slots Q (F0 m pc ls st) :=
  va_calli (va_runS (As := As) (rest := rest) S hM cw (tw_preS hK hT) rfl hn hsize hst (lv_room hW) hdg hf) hS (fun _ _ h => h) (fun _ h => h) (fun r u t H1 locs1 ht _ hp hB _ _ hS1 => kk r u H1 locs1 hp (by rw [← ht]; exact hB.1) hS1)
theorem tw_Sl {post : Int64 → Gh → Prop} (S : CallFix p m c cc nL s args Ts own) (hM : Met l y ws rm (va_Pc As (fun U => WW D cy κ G U)) (va_Ql post (fun u t => WW D cy κ u t) (AA κ)) 0 0 (AA κ)) (cw : CallB R s args own index y bytes maxL ret ws rm 0 0 n ∧ (Cond.static y).before args s = true) (hK : KK D cy s) (hT : TW D cy κ G H) (hS : va_S (AA κ) H0 H locs)
    (hn : As.length = n) (hsize : ls.size = nL) (hst : st = As.reverse ++ rest) (hW : (rest.map fun v => v.category).sum ≤ 8) (hdg : decode cc pc = .ok (.invokestatic index, 3)) (hf : cells ≤ R.cells ∧ slots ≤ R.slots)
    (kk : ∀ (r : Int64) (u : Gh) (H1 : Heap) (locs1 : List Loc), post r u → TW D cy κ u H1 → va_S (AA κ) H0 H1 locs1 → W p l e R s m args below meth c H1 locs1 cells slots Q (F0 m (pc + 3) ls (.long r :: rest))) : W p l e R s m args below meth c H locs cells slots Q (F0 m pc ls st) :=
  va_calll (va_runS (As := As) (rest := rest) S hM cw (tw_preS hK hT) rfl hn hsize hst (lv_room hW) hdg hf) hS (fun _ _ h => h) (fun _ h => h) (fun r u t H1 locs1 ht _ hp hB _ _ hS1 => kk r u H1 locs1 hp (by rw [← ht]; exact hB.1) hS1)
theorem tw_Sv {post : Gh → Prop} (S : CallFix p m c cc nL s args Ts own) (hM : Met l y ws rm (va_Pc As (fun U => WW D cy κ G U)) (va_Qv post (fun u t => WW D cy κ u t) (AA κ)) 0 0 (AA κ)) (cw : CallB R s args own index y bytes maxL ret ws rm 0 0 n ∧ (Cond.static y).before args s = true) (hK : KK D cy s) (hT : TW D cy κ G H) (hS : va_S (AA κ) H0 H locs)
    (hn : As.length = n) (hsize : ls.size = nL) (hst : st = As.reverse ++ rest) (hW : (rest.map fun v => v.category).sum ≤ 8) (hdg : decode cc pc = .ok (.invokestatic index, 3)) (hf : cells ≤ R.cells ∧ slots ≤ R.slots)
    (kk : ∀ (u : Gh) (H1 : Heap) (locs1 : List Loc), post u → TW D cy κ u H1 → va_S (AA κ) H0 H1 locs1 → W p l e R s m args below meth c H1 locs1 cells slots Q (F0 m (pc + 3) ls rest)) : W p l e R s m args below meth c H locs cells slots Q (F0 m pc ls st) :=
  va_callv (va_runS (As := As) (rest := rest) S hM cw (tw_preS hK hT) rfl hn hsize hst (lv_room hW) hdg hf) hS (fun _ _ h => h) (fun _ h => h) (fun u t H1 locs1 ht _ hp hB _ _ hS1 => kk u H1 locs1 hp (by rw [← ht]; exact hB.1) hS1)
end TWD
