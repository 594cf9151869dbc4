/-! CONSTRUCTION: new int[4][3] -/
theorem vs_outer (c : ClassId) (N h0 : Nat) : ∀ i : Nat, Jvm.Free.Multi.outerC c N h0 i = arrV c N (fun j => if j < i then .ref (h0 + 1 + j) else .null)
  | 0 => by
    show ({ cls := c, slots := Array.replicate N .null, vm := .none } : Cell) = _
    rw [arrV_new]
    refine congrArg (arrV c N) (funext fun j => ?_)
    simp
  | i + 1 => by
    show (Jvm.Free.Multi.outerC c N h0 i).setSlot i (.ref (h0 + 1 + i)) = _
    rw [vs_outer c N h0 i, arrV_store]
    refine congrArg (arrV c N) (funext fun j => ?_)
    by_cases e : j = i
    · subst e
      simp [updV]
    · by_cases h : j < i
      · simp [updV, e, h, Nat.lt_succ_of_lt h]
      · simp [updV, e, h, show ¬ j < i + 1 by omega]
section MNA
variable {p : Program} {l : Launch} {e : Env} {R : Room} {s : State} {m : MethodId} {args : Array Value} {below : List Frame} {meth : Method} {c : Code} {H : Heap} {locs : List Loc} {cells slots : Nat} {Q : State → Prop}
variable {cc : ByteArray} {pc : Nat} {ls : Array Slot} {rest : List Value} {D : va_G} {cy : Nat → ClassId} {κ0 κ : Nat → Nat} {sz h0 ci index : Nat} {H0 : Heap} {own : String} {V : Nat → Value} {ρ : Nat → Option Cell}
theorem r_mna (hexec : p.tables.exec = Jvm.exec) (hb : c.code = cc) (hown : s.vm.findClass own = some m.cls) (hclink : (Cond.classLink own index "[[I").before args s = true) (hover : AOA s) (harr : (Cond.arrayClass .int).before args s = true) (hK : KK D cy s) (hcells : cells + (1 + 4) ≤ R.cells) (hslots : slots + (4 + 4 * 3) ≤ R.slots) (hdg : decode cc pc = .ok (.multianewarray index 2, 4))
    (kk : ∀ H1 : Heap, H1.size = H.size + 5 → (∀ q : Nat, q < H.size → H1[q]? = H[q]?) → H1[H.size]? = some (arrV (cy 5) 4 (fun j => if j < 4 then .ref (H.size + 1 + j) else .null)) → (∀ j, j < 4 → H1[H.size + 1 + j]? = some (arrV (cy 0) 3 (fun _ => .int 0))) →
      W p l e R s m args below meth c H1 locs (cells + (1 + 4)) (slots + (4 + 4 * 3)) Q (F0 m (pc + 4) ls (.ref H.size :: rest))) : W p l e R s m args below meth c H locs cells slots Q (F0 m pc ls (.int 3 :: .int 4 :: rest)) := by
  intro T hT Xs
  obtain ⟨vm₁, cA, comp, -, fA, fC, hO, -, X', step⟩ := Xs.multianewarray2F hexec (ty := .int) hown hclink hover harr (g := F0 m pc ls (.int 3 :: .int 4 :: rest)) rfl (by rw [hb]; exact hdg) rfl (by decide) (by decide) (by decide) (by decide) (by decide) (by decide) (by decide) hcells hslots
  have ec : comp = cy 0 := Option.some.inj (fC.symm.trans (hK.2 0 _ rfl).2)
  have eA : cA = cy 5 := Option.some.inj (fA.symm.trans (hK.2 5 _ rfl).2)
  subst ec
  subst eA
  have hTh : (T.setVm vm₁).heap = H := hT
  obtain ⟨f1, f2, -, -⟩ := Jvm.Free.Multi.fill_facts (T.setVm vm₁) (cy 5) (cy 0) 4 3 (defaultValue .int) 4
  have hold := fun (x : Nat) (hx : x < H.size) => Jvm.Free.Multi.fill_old (T.setVm vm₁) (cy 5) (cy 0) 4 3 (defaultValue .int) (a := x) (by rw [hTh]; exact hx) 4
  have hrow := fun (j : Nat) (hj : j < 4) => Jvm.Free.Multi.fill_inner (T.setVm vm₁) (cy 5) (cy 0) 4 3 (defaultValue .int) 4 j hj
  rw [hTh] at f1 f2
  rw [vs_outer] at f2
  obtain ⟨t, a1, b1⟩ := kk _ (by rw [f1]) (fun q hq => by have := hold q hq; rw [hTh] at this; exact this) f2 (fun j hj => by have := hrow j hj; rw [hTh] at this; exact this) _ rfl X'
  refine ⟨t, step t ?_, b1⟩
  have e9 : T.heap.size = H.size := by rw [hT]
  rw [e9]
  exact a1
end MNA
