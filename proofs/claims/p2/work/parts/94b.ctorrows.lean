/-! CONSTRUCTION: rows over cells that are not yet in the world -/
section RAW
variable {p : Program} {l : Launch} {e : Env} {R : Room} {s : State} {m : MethodId} {args : Array Value} {below : List Frame} {meth : Method} {c : Code} {H : Heap} {locs : List Loc} {cells slots : Nat} {Q : State → Prop}
variable {cc : ByteArray} {pc : Nat} {ls : Array Slot} {rest : List Value} {D : va_G} {cy : Nat → ClassId} {κ : Nat → Nat} {G : Gh} {a : Nat} {H0 : Heap} {A : Nat → Prop} {own : String} {index : Nat} {Ts : List Cond}
theorem r_new (hexec : p.tables.exec = Jvm.exec) (hb : c.code = cc) {C : String} {T : u_T} {N ci : Nat} (hts : ∀ w ∈ Ts, w.before args s = true) (hin : ∀ w ∈ u_ws C T N, w ∈ Ts) (ty : Nat → FieldType) (hty : ∀ k, k < N → parseFieldDescriptor (T k).2.2.1 = some (ty k)) (hown : s.vm.findClass own = some m.cls) (hcl : (Cond.classLink own index C).before args s = true) (hinst : (Cond.instantiable C N).before args s = true) (hini : (Cond.initialized C).before args s = true)
    (hK : KK D cy s) (hT : TW D cy κ G H) (hS : va_S A H0 H locs) (hc : vwCl[ci]? = some (C, T, N)) (hN : nF ci = N) (hcells : cells + 1 ≤ R.cells) (hslots : slots + N ≤ R.slots) (hdg : decode cc pc = .ok (.new index, 3))
    (kk : ∀ H1 : Heap, TW D cy κ G H1 → t_OB H.size (D.1 ci) (nF ci) (D.2 ci) H1 (fun k => defaultValue (ty k)) → va_S A H0 H1 locs → (∀ q : Nat, q < H.size → H1[q]? = H[q]?) → H1.size = H.size + 1 →
      W p l e R s m args below meth c H1 locs (cells + 1) (slots + N) Q (F0 m (pc + 3) ls (.ref H.size :: rest))) : W p l e R s m args below meth c H locs cells slots Q (F0 m pc ls rest) := by
  subst hN
  have hKn := hK.1 ci _ hc
  refine W.newcK hexec hb hown hcl hinst hini rfl hdg hcells hslots hKn.2.1 rfl fun H1 kC hkC e1 z1 o1 => ?_
  exact kk H1 (hT.kept (fun b hb => o1 b (hT.lt hb))) (u_born ty hts hin hKn hkC e1 hty) ⟨Nat.le_trans hS.1 (by omega), fun x h1 h2 => (o1 x (Nat.lt_of_lt_of_le h1 hS.1)).trans (hS.2.1 x h1 h2), hS.2.2⟩ o1 z1
theorem r_newI (hexec : p.tables.exec = Jvm.exec) (hb : c.code = cc) (harr : (Cond.arrayClass .int).before args s = true) (hK : KK D cy s) (hT : TW D cy κ G H) (hS : va_S A H0 H locs) {n : Int32} {N K : Nat} (h13 : 13 ≤ K) (haT : aT K = 0) (haN : aN K = N) (hsg : sing K → ∀ b, κ b ≠ K) (hd : ∀ (κ' : Nat → Nat) (j : Nat), j < N → asp κ' G K j (.int 0)) (hn : ¬ n < 0) (hNn : n.toNatClampNeg = N) (hby : N * 4 ≤ 536870912) (hcells : cells + 1 ≤ R.cells) (hslots : slots + N ≤ R.slots) (hdg : decode cc pc = .ok (.newarray .int, 2))
    (kk : ∀ H1 : Heap, TW D cy (va_up κ H.size K) G H1 → va_S A H0 H1 locs → (∀ q : Nat, q < H.size → H1[q]? = H[q]?) → H1.size = H.size + 1 → W p l e R s m args below meth c H1 locs (cells + 1) (slots + N) Q (F0 m (pc + 2) ls (.ref H.size :: rest))) : W p l e R s m args below meth c H locs cells slots Q (F0 m pc ls (.int n :: rest)) := by
  refine va_newaK hexec hb (atype := .int) harr rfl hdg rfl hn hNn hby hcells hslots rfl fun H1 cA e1 z1 o1 hAr hNm => ?_
  have hcA : cA = cy 0 := Option.some.inj (hNm.symm.trans (hK.2 0 _ rfl).2)
  refine kk H1 ((hT.kept (fun b hb => o1 b (hT.lt hb))).seal (hT.none (Nat.le_refl _)) (by omega) (fun ci h1 h2 => absurd h1 (by omega)) (fun _ => ⟨fun _ => .int 0, ?_, fun j hj => hd _ j (by rw [← haN]; exact hj)⟩) hsg) ⟨Nat.le_trans hS.1 (by omega), fun x h1 h2 => (o1 x (Nat.lt_of_lt_of_le h1 hS.1)).trans (hS.2.1 x h1 h2), hS.2.2⟩ o1 z1
  rw [e1, hcA, haT, haN]
  rfl
theorem r_newJ (hexec : p.tables.exec = Jvm.exec) (hb : c.code = cc) (harr : (Cond.arrayClass .long).before args s = true) (hK : KK D cy s) (hT : TW D cy κ G H) (hS : va_S A H0 H locs) {n : Int32} {N K : Nat} (h13 : 13 ≤ K) (haT : aT K = 1) (haN : aN K = N) (hsg : sing K → ∀ b, κ b ≠ K) (hd : ∀ (κ' : Nat → Nat) (j : Nat), j < N → asp κ' G K j (.long 0)) (hn : ¬ n < 0) (hNn : n.toNatClampNeg = N) (hby : N * 8 ≤ 536870912) (hcells : cells + 1 ≤ R.cells) (hslots : slots + N ≤ R.slots) (hdg : decode cc pc = .ok (.newarray .long, 2))
    (kk : ∀ H1 : Heap, TW D cy (va_up κ H.size K) G H1 → va_S A H0 H1 locs → (∀ q : Nat, q < H.size → H1[q]? = H[q]?) → H1.size = H.size + 1 → W p l e R s m args below meth c H1 locs (cells + 1) (slots + N) Q (F0 m (pc + 2) ls (.ref H.size :: rest))) : W p l e R s m args below meth c H locs cells slots Q (F0 m pc ls (.int n :: rest)) := by
  refine va_newaK hexec hb (atype := .long) harr rfl hdg rfl hn hNn hby hcells hslots rfl fun H1 cA e1 z1 o1 hAr hNm => ?_
  have hcA : cA = cy 1 := Option.some.inj (hNm.symm.trans (hK.2 1 _ rfl).2)
  refine kk H1 ((hT.kept (fun b hb => o1 b (hT.lt hb))).seal (hT.none (Nat.le_refl _)) (by omega) (fun ci h1 h2 => absurd h1 (by omega)) (fun _ => ⟨fun _ => .long 0, ?_, fun j hj => hd _ j (by rw [← haN]; exact hj)⟩) hsg) ⟨Nat.le_trans hS.1 (by omega), fun x h1 h2 => (o1 x (Nat.lt_of_lt_of_le h1 hS.1)).trans (hS.2.1 x h1 h2), hS.2.2⟩ o1 z1
  rw [e1, hcA, haT, haN]
  rfl
theorem r_anew (hexec : p.tables.exec = Jvm.exec) (hb : c.code = cc) {C : String} (hown : s.vm.findClass own = some m.cls) (hclink : (Cond.classLink own index C).before args s = true) (hover : va_AO C s) (hK : KK D cy s) {t : Nat} (htt : (tysOf cy)[t]? = some (cy t, .object C)) (hT : TW D cy κ G H) (hS : va_S A H0 H locs) {n : Int32} {N : Nat} (hn : ¬ n < 0) (hNn : n.toNatClampNeg = N) (hby : N * 4 ≤ 536870912) (hcells : cells + 1 ≤ R.cells) (hslots : slots + N ≤ R.slots) (hdg : decode cc pc = .ok (.anewarray index, 3))
    (kk : ∀ H1 : Heap, TW D cy κ G H1 → H1[H.size]? = some (arrV (cy t) N (fun _ => .null)) → va_S A H0 H1 locs → (∀ q : Nat, q < H.size → H1[q]? = H[q]?) → H1.size = H.size + 1 → W p l e R s m args below meth c H1 locs (cells + 1) (slots + N) Q (F0 m (pc + 3) ls (.ref H.size :: rest))) : W p l e R s m args below meth c H locs cells slots Q (F0 m pc ls (.int n :: rest)) := by
  subst hNn
  refine W.anew hexec hb hown hclink (va_AO.use hover) rfl hdg rfl hn hby hcells hslots fun cA kA comp f1 f2 f3 f4 => ?_
  generalize hH1 : H.push ({ cls := cA, slots := Array.replicate n.toNatClampNeg .null, vm := .none } : Cell) = H1
  have z1 : H1.size = H.size + 1 := by rw [← hH1, Array.size_push]
  have e1 : H1[H.size]? = some (arrV cA n.toNatClampNeg (fun _ => .null)) := by rw [← hH1, Array.getElem?_push_size, ← arrV_new]
  have o1 : ∀ q : Nat, q < H.size → H1[q]? = H[q]? := fun q hq => by rw [← hH1, Array.getElem?_push, if_neg (Nat.ne_of_lt hq)]
  obtain ⟨kB, compB, -, -, -, h4⟩ := (hK.2 t _ htt).2
  have hcA : cA = cy t := Option.some.inj (f1.symm.trans h4)
  rw [hcA] at e1
  exact kk H1 (hT.kept (fun b hb => o1 b (hT.lt hb))) e1 ⟨Nat.le_trans hS.1 (by omega), fun x h1 h2 => (o1 x (Nat.lt_of_lt_of_le h1 hS.1)).trans (hS.2.1 x h1 h2), hS.2.2⟩ o1 z1
theorem r_aast (hexec : p.tables.exec = Jvm.exec) (hb : c.code = cc) (hK : KK D cy s) (hT : TW D cy κ G H) (hS : va_S A H0 H locs) {t ci v n : Nat} {r : vw_C} (htt : (tysOf cy)[t]? = some (cy t, .object r.1)) (hc : vwCl[ci]? = some r) (hv : κ v = ci + 1) (hci : ci < 12) {f : Nat → Value} (ha : H[a]? = some (arrV (cy t) n f)) (h0 : κ a = 0) (hAa : A a) {i : Int32} (hin : 0 ≤ i.toInt ∧ i.toInt < (n : Int)) (hdg : decode cc pc = .ok (.aastore, 1))
    (kk : ∀ (H1 : Heap) (locs1 : List Loc), TW D cy κ G H1 → H1[a]? = some (arrV (cy t) n (updV f i.toNatClampNeg (.ref v))) → va_S A H0 H1 locs1 → (∀ q : Nat, q ≠ a → H1[q]? = H[q]?) → H1.size = H.size → W p l e R s m args below meth c H1 locs1 cells slots Q (F0 m (pc + 1) ls rest)) : W p l e R s m args below meth c H locs cells slots Q (F0 m pc ls (.ref v :: .int i :: .ref a :: rest)) := by
  have hvi := vin hin
  have hlt : i.toNatClampNeg < n := Nat.not_le.mp fun q => hvi (Or.inr q)
  have hi0 : ¬ i < 0 := fun q => hvi (Or.inl q)
  obtain ⟨V, ⟨cellV, g1, g2, g3, -⟩, -⟩ := hT.1 v ci hv hci
  have hcls := (hK.1 ci r hc).2
  obtain ⟨kA, comp, k1, k2, k3, -⟩ := (hK.2 t _ htt).2
  have hcomp : comp = D.1 ci := Option.some.inj (k3.symm.trans hcls.1)
  subst hcomp
  obtain ⟨kC, hkC, -⟩ := hcls.2
  refine W.aast hexec hb ha (fun q h => by cases h) (fun h => by cases h) k1 k2 rfl hkC ⟨hi0, by show _ < (arrV _ _ _).slots.size; rw [arrV_size]; exact hlt⟩ g1 (fun q h => by rw [g3] at h; cases h) (by rw [g2]; exact hkC) (by rw [g2]; exact va_assign hcls) rfl rfl hdg fun H1 e z oq => ?_
  refine kk H1 _ (hT.kept (fun b hb => oq b (fun q => hb (by rw [q]; exact h0)))) ?_ (hS.put z oq hAa) oq z
  rw [e, arrV_store]
theorem r_put (hexec : p.tables.exec = Jvm.exec) (hb : c.code = cc) {C : String} {T : u_T} {N ci : Nat} (hts : ∀ w ∈ Ts, w.before args s = true) (hin : ∀ w ∈ u_ws C T N, w ∈ Ts) (ty0 : Nat → FieldType) (hty : ∀ k, k < N → parseFieldDescriptor (T k).2.2.1 = some (ty0 k)) (hnm : ∀ a, a < N → ∀ b, b < N → a ≠ b → (T a).2.1 ≠ (T b).2.1) (hown : s.vm.findClass own = some m.cls) (hK : KK D cy s) (hT : TW D cy κ G H) (hS0 : va_S A H0 H locs) (h0 : κ a = 0) (hAa : A a) (hc : vwCl[ci]? = some (C, T, N)) (hN : nF ci = N) (k : Nat) (hkN : k < N) (hd : (T k).1 = C) (hlink : (Cond.fieldLink own index C (T k).2.1 (T k).2.2.1).before args s = true) (hfin : (T k).2.2.2 = false ∨ ((T k).2.2.2 = true ∧ meth.name = "<init>" ∧ (T k).1 = own)) {v : Value} (hn : narrow (ty0 k) v = v) (hfit : fits (ty0 k) v = true) {V : Nat → Value} (ho : t_OB a (D.1 ci) (nF ci) (D.2 ci) H V) (hdg : decode cc pc = .ok (.putfield index, 3))
    (kk : ∀ (H1 : Heap) (locs1 : List Loc), TW D cy κ G H1 → t_OB a (D.1 ci) (nF ci) (D.2 ci) H1 (updV V k v) → va_S A H0 H1 locs1 → (∀ q : Nat, q ≠ a → H1[q]? = H[q]?) → H1.size = H.size → W p l e R s m args below meth c H1 locs1 cells slots Q (F0 m (pc + 3) ls rest)) : W p l e R s m args below meth c H locs cells slots Q (F0 m pc ls (v :: .ref a :: rest)) := by
  subst hN
  have hap := va_apart (own := own) hts hin ty0 hty hnm hK hc
  obtain ⟨cell, q1, q2, q3, q4⟩ := ho
  obtain ⟨hS, hfc, kC, hkC, hkind⟩ := hK.1 ci _ hc
  obtain ⟨cf, kf, fi, f, hi, hsl⟩ := hS k hkN
  have hlay := hts _ (hin _ (u_in_lay hkN))
  have hst := (u_facts hfc hkC (u_lays hts hin hkN) hi).1
  unfold u_lay at hlay
  rcases hfin with hfin | ⟨hfin, hin2, hdecl⟩
  · rw [if_neg (by rw [hfin]; decide)] at hlay
    have h6 := u_store hfc hkC hkind hlay hi (hty k hkN) hn hfit
    refine W.putK hexec hb (f := f) ⟨hown, hlink, ⟨_, _, _, by rw [← hd]; exact hi⟩, hst⟩ (by rw [q2]; exact h6) q1 q3 (by rw [hsl]; exact k2_hasslot (q4 k hkN)) rfl rfl hdg fun H' e1 e2 e3 => ?_
    rw [hsl] at e1 ⊢
    exact kk H' _ (hT.kept (fun b hb => e3 b (fun q => hb (by rw [q]; exact h0)))) ⟨_, e1, q2, q3, t_set q4 hap hkN v⟩ (hS0.put e2 e3 hAa) e3 e2
  · rw [if_pos hfin] at hlay
    have hcf : m.cls = cf := by
      obtain ⟨_, _, c', _, _, _, -, -, hf', -, -, -, hown2, -⟩ := Cond.laysFinal_spec hlay
      have e1 : c' = cf := by have := hi.symm.trans hf'; simp at this; exact this.1.symm
      rw [hdecl] at hown2
      rw [← e1]; exact Option.some.inj (hown.symm.trans hown2)
    have h6 := u_fits hfc hkC hkind (Or.inr hlay) hi (hty k hkN) hn hfit
    refine W.putFinK hexec hb hown hlink (by rw [← hd]; exact hi) hst hcf hin2 (by rw [q2]; exact h6) q1 q3 (by rw [hsl]; exact k2_hasslot (q4 k hkN)) rfl rfl hdg fun H' e1 e2 e3 => ?_
    rw [hsl] at e1 ⊢
    exact kk H' _ (hT.kept (fun b hb => e3 b (fun q => hb (by rw [q]; exact h0)))) ⟨_, e1, q2, q3, t_set q4 hap hkN v⟩ (hS0.put e2 e3 hAa) e3 e2
end RAW
