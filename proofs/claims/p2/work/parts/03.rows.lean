/-! ROWS over the world: a field, a place of an array, a call, a branch -/
def FV (D : va_G) (H : Heap) (a ci k : Nat) (v : Value) : Prop := ∃ cell : Cell, H[a]? = some cell ∧ cell.slots[D.2 ci k]? = some v
def AV (H : Heap) (a j : Nat) (v : Value) : Prop := ∃ cell : Cell, H[a]? = some cell ∧ cell.slots[j]? = some v
theorem FV.eq {D : va_G} {H : Heap} {a ci k : Nat} {v w : Value} (h : FV D H a ci k v) (h2 : FV D H a ci k w) : v = w := by
  obtain ⟨c1, e1, f1⟩ := h
  obtain ⟨c2, e2, f2⟩ := h2
  have e : c1 = c2 := Option.some.inj (e1.symm.trans e2)
  subst e
  exact Option.some.inj (f1.symm.trans f2)
theorem AV.eq {H : Heap} {a j : Nat} {v w : Value} (h : AV H a j v) (h2 : AV H a j w) : v = w := by
  obtain ⟨c1, e1, f1⟩ := h
  obtain ⟨c2, e2, f2⟩ := h2
  have e : c1 = c2 := Option.some.inj (e1.symm.trans e2)
  subst e
  exact Option.some.inj (f1.symm.trans f2)
theorem eInt {x y : Int32} (h : Value.int x = Value.int y) : x = y := Value.int.inj h
theorem eLong {x y : Int64} (h : Value.long x = Value.long y) : x = y := Value.long.inj h
theorem eRef {x y : Nat} (h : Value.ref x = Value.ref y) : x = y := Value.ref.inj h
theorem FV.kept {D : va_G} {H H1 : Heap} {a ci k : Nat} {v : Value} (h : FV D H a ci k v) (hq : H1[a]? = H[a]?) : FV D H1 a ci k v := by
  obtain ⟨c1, e1, f1⟩ := h
  exact ⟨c1, by rw [hq]; exact e1, f1⟩
theorem AV.kept {H H1 : Heap} {a j : Nat} {v : Value} (h : AV H a j v) (hq : H1[a]? = H[a]?) : AV H1 a j v := by
  obtain ⟨c1, e1, f1⟩ := h
  exact ⟨c1, by rw [hq]; exact e1, f1⟩
theorem kne {κ : Nat → Nat} {a b K L : Nat} (h : κ a = K) (h2 : κ b = L) (hn : K ≠ L) : a ≠ b := fun e => hn (by rw [← h, ← h2, e])
section TWR
variable {p : Program} {l : Launch} {e : Env} {R : Room} {s : State} {m : MethodId} {args : Array Value} {below : List Frame} {meth : Method} {c : Code} {H : Heap} {locs : List Loc} {cells slots : Nat} {Q : State → Prop}
variable {cc : ByteArray} {pc : Nat} {ls : Array Slot} {rest : List Value} {D : va_G} {cy : Nat → ClassId} {κ : Nat → Nat} {G : Gh} {a : Nat} {H0 : Heap}
theorem tw_get (hexec : p.tables.exec = Jvm.exec) (hb : c.code = cc) {own C : String} {T : u_T} {N ci index : Nat} {Ts : List Cond} (hts : ∀ w ∈ Ts, w.before args s = true) (hin : ∀ w ∈ u_ws C T N, w ∈ Ts) (hown : s.vm.findClass own = some m.cls) (hK : KK D cy s) (hT : TW D cy κ G H) (hk : κ a = ci + 1) (hci : ci < 12) (hc : vwCl[ci]? = some (C, T, N)) (hN : nF ci = N) (k : Nat) (hkN : k < N) (hd : (T k).1 = C) (hlink : (Cond.fieldLink own index C (T k).2.1 (T k).2.2.1).before args s = true) (hdg : decode cc pc = .ok (.getfield index, 3))
    (kk : ∀ v : Value, fsp κ G (ci + 1) k a v → FV D H a ci k v → W p l e R s m args below meth c H locs cells slots Q (F0 m (pc + 3) ls (v :: rest))) : W p l e R s m args below meth c H locs cells slots Q (F0 m pc ls (.ref a :: rest)) := by
  subst hN
  obtain ⟨V, ⟨cell, q1, q2, q3, q4⟩, hV⟩ := hT.1 a ci hk hci
  obtain ⟨hS, hfc, kC, hkC, hkind⟩ := hK.1 ci _ hc
  obtain ⟨cf, kf, fi, f, hi, hsl⟩ := hS k hkN
  refine W.getf (v := V k) hexec hb hown hlink (by rw [← hd]; exact hi) (u_facts hfc hkC (u_lays hts hin hkN) hi).1 q1 (by rw [q3]; exact fun h => by cases h) ?_ rfl rfl hdg (kk _ (hV k hkN) ⟨cell, q1, q4 k hkN⟩)
  rw [hsl, q4 k hkN]
theorem tw_put0 (hexec : p.tables.exec = Jvm.exec) (hb : c.code = cc) {own C : String} {T : u_T} {N ci index : Nat} {Ts : List Cond} (hts : ∀ w ∈ Ts, w.before args s = true) (hin : ∀ w ∈ u_ws C T N, w ∈ Ts) (ty0 : Nat → FieldType) (hty : ∀ k, k < N → parseFieldDescriptor (T k).2.2.1 = some (ty0 k)) (hnm : ∀ a, a < N → ∀ b, b < N → a ≠ b → (T a).2.1 ≠ (T b).2.1) (hown : s.vm.findClass own = some m.cls) (hK : KK D cy s) (hT : TW D cy κ G H) (hS0 : va_S (AA κ) H0 H locs) (hk : κ a = ci + 1) (hci : ci < 12) (hc : vwCl[ci]? = some (C, T, N)) (hN : nF ci = N) (k : Nat) (hkN : k < N) (hd : (T k).1 = C) (hlink : (Cond.fieldLink own index C (T k).2.1 (T k).2.2.1).before args s = true) (hfin : (T k).2.2.2 = false) {v : Value} (hn : narrow (ty0 k) v = v) (hfit : fits (ty0 k) v = true) (hdg : decode cc pc = .ok (.putfield index, 3))
    (kk : ∀ (V : Nat → Value) (H1 : Heap) (locs1 : List Loc), (∀ j, j < nF ci → fsp κ G (ci + 1) j a (V j)) → t_OB a (D.1 ci) (nF ci) (D.2 ci) H1 (updV V k v) → (∀ q : Nat, q ≠ a → H1[q]? = H[q]?) → va_S (AA κ) H0 H1 locs1 → W p l e R s m args below meth c H1 locs1 cells slots Q (F0 m (pc + 3) ls rest)) : W p l e R s m args below meth c H locs cells slots Q (F0 m pc ls (v :: .ref a :: rest)) := by
  subst hN
  have hap := va_apart (own := own) hts hin ty0 hty hnm hK hc
  obtain ⟨V, ⟨cell, q1, q2, q3, q4⟩, hV⟩ := hT.1 a ci hk hci
  obtain ⟨hS, hfc, kC, hkC, hkind⟩ := hK.1 ci _ hc
  obtain ⟨cf, kf, fi, f, hi, hsl⟩ := hS k hkN
  have hlay := hts _ (hin _ (u_in_lay hkN))
  unfold u_lay at hlay
  rw [if_neg (by rw [hfin]; decide)] at hlay
  have hst := (u_facts hfc hkC (u_lays hts hin hkN) hi).1
  have h6 := u_store hfc hkC hkind hlay hi (hty k hkN) hn hfit
  refine W.putK hexec hb (f := f) ⟨hown, hlink, ⟨_, _, _, by rw [← hd]; exact hi⟩, hst⟩ (by rw [q2]; exact h6) q1 q3 (by rw [hsl]; exact k2_hasslot (q4 k hkN)) rfl rfl hdg fun H' e1 e2 e3 => ?_
  rw [hsl] at e1 ⊢
  exact kk V H' _ hV ⟨_, e1, q2, q3, t_set q4 hap hkN v⟩ e3 (hS0.put e2 e3 (by show κ a ≠ 0; omega))
theorem tw_put (hexec : p.tables.exec = Jvm.exec) (hb : c.code = cc) {own C : String} {T : u_T} {N ci index : Nat} {Ts : List Cond} (hts : ∀ w ∈ Ts, w.before args s = true) (hin : ∀ w ∈ u_ws C T N, w ∈ Ts) (ty0 : Nat → FieldType) (hty : ∀ k, k < N → parseFieldDescriptor (T k).2.2.1 = some (ty0 k)) (hnm : ∀ a, a < N → ∀ b, b < N → a ≠ b → (T a).2.1 ≠ (T b).2.1) (hown : s.vm.findClass own = some m.cls) (hK : KK D cy s) (hT : TW D cy κ G H) (hS0 : va_S (AA κ) H0 H locs) (hk : κ a = ci + 1) (hci : ci < 12) (hc : vwCl[ci]? = some (C, T, N)) (hN : nF ci = N) (k : Nat) (hkN : k < N) (hd : (T k).1 = C) (hlink : (Cond.fieldLink own index C (T k).2.1 (T k).2.2.1).before args s = true) (hfin : (T k).2.2.2 = false) {v : Value} (hn : narrow (ty0 k) v = v) (hfit : fits (ty0 k) v = true) (hdg : decode cc pc = .ok (.putfield index, 3)) (hv : fsp κ G (ci + 1) k a v)
    (kk : ∀ (H1 : Heap) (locs1 : List Loc), TW D cy κ G H1 → va_S (AA κ) H0 H1 locs1 → W p l e R s m args below meth c H1 locs1 cells slots Q (F0 m (pc + 3) ls rest)) : W p l e R s m args below meth c H locs cells slots Q (F0 m pc ls (v :: .ref a :: rest)) := by
  refine tw_put0 hexec hb hts hin ty0 hty hnm hown hK hT hS0 hk hci hc hN k hkN hd hlink hfin hn hfit hdg (fun V H1 locs1 hV ho hq hS => kk H1 locs1 ?_ hS)
  refine hT.put hk ho (fun j hj => ?_) hq (fun _ _ _ _ _ _ _ _ h => h) (fun _ _ _ _ _ h => h) hci
  by_cases e : j = k
  · subst e; simpa [updV] using hv
  · simpa [updV, e] using hV j hj
/-- the same with a change of what is known exactly -/
theorem tw_putG (G' : Gh) (hexec : p.tables.exec = Jvm.exec) (hb : c.code = cc) {own C : String} {T : u_T} {N ci index : Nat} {Ts : List Cond} (hts : ∀ w ∈ Ts, w.before args s = true) (hin : ∀ w ∈ u_ws C T N, w ∈ Ts) (ty0 : Nat → FieldType) (hty : ∀ k, k < N → parseFieldDescriptor (T k).2.2.1 = some (ty0 k)) (hnm : ∀ a, a < N → ∀ b, b < N → a ≠ b → (T a).2.1 ≠ (T b).2.1) (hown : s.vm.findClass own = some m.cls) (hK : KK D cy s) (hT : TW D cy κ G H) (hS0 : va_S (AA κ) H0 H locs) (hk : κ a = ci + 1) (hci : ci < 12) (hc : vwCl[ci]? = some (C, T, N)) (hN : nF ci = N) (k : Nat) (hkN : k < N) (hd : (T k).1 = C) (hlink : (Cond.fieldLink own index C (T k).2.1 (T k).2.2.1).before args s = true) (hfin : (T k).2.2.2 = false) {v : Value} (hn : narrow (ty0 k) v = v) (hfit : fits (ty0 k) v = true) (hdg : decode cc pc = .ok (.putfield index, 3)) (hv : fsp κ G' (ci + 1) k a v) 
    (hf : ∀ b c' j w, κ b = c' + 1 → j < nF c' → (b ≠ a ∨ j ≠ k) → fsp κ G (c' + 1) j b w → fsp κ G' (c' + 1) j b w) (ha : ∀ K j w, 13 ≤ K → j < aN K → asp κ G K j w → asp κ G' K j w)
    (kk : ∀ (H1 : Heap) (locs1 : List Loc), TW D cy κ G' H1 → va_S (AA κ) H0 H1 locs1 → W p l e R s m args below meth c H1 locs1 cells slots Q (F0 m (pc + 3) ls rest)) : W p l e R s m args below meth c H locs cells slots Q (F0 m pc ls (v :: .ref a :: rest)) := by
  refine tw_put0 hexec hb hts hin ty0 hty hnm hown hK hT hS0 hk hci hc hN k hkN hd hlink hfin hn hfit hdg (fun V H1 locs1 hV ho hq hS => kk H1 locs1 ?_ hS)
  refine hT.put hk ho (fun j hj => ?_) hq (fun b c' hb' hc' hne k' hk' w h => hf _ _ _ _ hb' hk' (Or.inl hne) h) (fun _ _ _ h1 h2 h => ha _ _ _ h1 h2 h) hci
  by_cases e : j = k
  · subst e; simpa [updV] using hv
  · have := hf a ci j _ hk hj (Or.inr e) (hV j hj)
    simpa [updV, e] using this
/-- places of arrays -/
theorem tw_ia (hexec : p.tables.exec = Jvm.exec) (hb : c.code = cc) (hK : KK D cy s) (hT : TW D cy κ G H) {K : Nat} (hk : κ a = K) (h13 : 13 ≤ K) (ht : aT K = 0) {n : Nat} (hn : aN K = n) {i : Int32} (hin : 0 ≤ i.toInt ∧ i.toInt < (n : Int)) {P : Int32 → Prop} (hP : asp κ G K i.toNatClampNeg = is_I P) (hdg : decode cc pc = .ok (.iaload, 1))
    (kk : ∀ x : Int32, P x → AV H a i.toNatClampNeg (.int x) → W p l e R s m args below meth c H locs cells slots Q (F0 m (pc + 1) ls (.int x :: rest))) : W p l e R s m args below meth c H locs cells slots Q (F0 m pc ls (.int i :: .ref a :: rest)) := by
  subst hk; subst hn
  obtain ⟨f, h1, h2⟩ := hT.2.1 a h13
  have hlt : i.toNatClampNeg < aN (κ a) := by have := clampI hin.1; omega
  have h3 := h2 _ hlt
  rw [hP] at h3
  obtain ⟨x, hx, hp⟩ := h3
  rw [ht] at h1
  exact W.iald (v := .int x) hexec hb h1 ((hK.2 0 _ rfl).1 _ f) (fun q => by cases q) (by show ¬ (i < 0 ∨ (arrV _ _ _).slots.size ≤ _); rw [arrV_size]; exact vin hin) (by show (arrV _ _ _).slots[_]? = _; rw [arrV_read _ _ hlt, hx]) rfl rfl hdg (kk x hp ⟨_, h1, by rw [arrV_read _ _ hlt, hx]⟩)
theorem tw_la (hexec : p.tables.exec = Jvm.exec) (hb : c.code = cc) (hK : KK D cy s) (hT : TW D cy κ G H) {K : Nat} (hk : κ a = K) (h13 : 13 ≤ K) (ht : aT K = 1) {n : Nat} (hn : aN K = n) {i : Int32} (hin : 0 ≤ i.toInt ∧ i.toInt < (n : Int)) {P : Int64 → Prop} (hP : asp κ G K i.toNatClampNeg = is_L P) (hdg : decode cc pc = .ok (.laload, 1))
    (kk : ∀ x : Int64, P x → AV H a i.toNatClampNeg (.long x) → W p l e R s m args below meth c H locs cells slots Q (F0 m (pc + 1) ls (.long x :: rest))) : W p l e R s m args below meth c H locs cells slots Q (F0 m pc ls (.int i :: .ref a :: rest)) := by
  subst hk; subst hn
  obtain ⟨f, h1, h2⟩ := hT.2.1 a h13
  have hlt : i.toNatClampNeg < aN (κ a) := by have := clampI hin.1; omega
  have h3 := h2 _ hlt
  rw [hP] at h3
  obtain ⟨x, hx, hp⟩ := h3
  rw [ht] at h1
  exact W.lald (v := .long x) hexec hb h1 ((hK.2 1 _ rfl).1 _ f) (fun q => by cases q) (by show ¬ (i < 0 ∨ (arrV _ _ _).slots.size ≤ _); rw [arrV_size]; exact vin hin) (by show (arrV _ _ _).slots[_]? = _; rw [arrV_read _ _ hlt, hx]) rfl rfl hdg (kk x hp ⟨_, h1, by rw [arrV_read _ _ hlt, hx]⟩)
theorem tw_ra (hexec : p.tables.exec = Jvm.exec) (hb : c.code = cc) (hK : KK D cy s) (hT : TW D cy κ G H) {K : Nat} (hk : κ a = K) (h13 : 13 ≤ K) {t : Nat} (ht : aT K = t) {ty : FieldType} (hty : (tysOf cy)[t]? = some (cy t, ty)) (hre : ty.isReference = true) {n : Nat} (hn : aN K = n) {i : Int32} (hin : 0 ≤ i.toInt ∧ i.toInt < (n : Int)) {P : Nat → Prop} (hP : asp κ G K i.toNatClampNeg = is_R P) (hdg : decode cc pc = .ok (.aaload, 1))
    (kk : ∀ x : Nat, P x → AV H a i.toNatClampNeg (.ref x) → W p l e R s m args below meth c H locs cells slots Q (F0 m (pc + 1) ls (.ref x :: rest))) : W p l e R s m args below meth c H locs cells slots Q (F0 m pc ls (.int i :: .ref a :: rest)) := by
  subst hk; subst hn; subst ht
  obtain ⟨f, h1, h2⟩ := hT.2.1 a h13
  have hlt : i.toNatClampNeg < aN (κ a) := by have := clampI hin.1; omega
  have h3 := h2 _ hlt
  rw [hP] at h3
  obtain ⟨x, hx, hp⟩ := h3
  exact W.aald (v := .ref x) (ty := ty) hexec hb h1 ((hK.2 _ _ hty).1 _ f) hre (fun q => by cases q) (by show ¬ (i < 0 ∨ (arrV _ _ _).slots.size ≤ _); rw [arrV_size]; exact vin hin) (by show (arrV _ _ _).slots[_]? = _; rw [arrV_read _ _ hlt, hx]) rfl rfl hdg (kk x hp ⟨_, h1, by rw [arrV_read _ _ hlt, hx]⟩)
theorem tw_len (hexec : p.tables.exec = Jvm.exec) (hb : c.code = cc) (hK : KK D cy s) (hT : TW D cy κ G H) {K : Nat} (hk : κ a = K) (h13 : 13 ≤ K) {t : Nat} (ht : aT K = t) {ty : FieldType} (hty : (tysOf cy)[t]? = some (cy t, ty)) {n : Nat} (hn : aN K = n) (hdg : decode cc pc = .ok (.arraylength, 1))
    (kk : ∀ x : Int32, x = nI n → W p l e R s m args below meth c H locs cells slots Q (F0 m (pc + 1) ls (.int x :: rest))) : W p l e R s m args below meth c H locs cells slots Q (F0 m pc ls (.ref a :: rest)) := by
  subst hk; subst hn; subst ht
  obtain ⟨f, h1, h2⟩ := hT.2.1 a h13
  exact W.alen (n := nI (aN (κ a))) hexec hb h1 ((hK.2 _ _ hty).1 _ f) (by rw [arrV_size]; rfl) rfl rfl hdg (kk _ rfl)
theorem tw_ias0 (hexec : p.tables.exec = Jvm.exec) (hb : c.code = cc) (hK : KK D cy s) (hT : TW D cy κ G H) (hS : va_S (AA κ) H0 H locs) {K : Nat} (hk : κ a = K) (h13 : 13 ≤ K) (ht : aT K = 0) {n : Nat} (hn : aN K = n) {i x : Int32} (hin : 0 ≤ i.toInt ∧ i.toInt < (n : Int)) (hdg : decode cc pc = .ok (.iastore, 1))
    (kk : ∀ (f : Nat → Value) (H1 : Heap) (locs1 : List Loc), (∀ j, j < aN K → asp κ G K j (f j)) → H1[a]? = some (arrV (cy (aT K)) (aN K) (updV f i.toNatClampNeg (.int x))) → (∀ q : Nat, q ≠ a → H1[q]? = H[q]?) → va_S (AA κ) H0 H1 locs1 → W p l e R s m args below meth c H1 locs1 cells slots Q (F0 m (pc + 1) ls rest)) : W p l e R s m args below meth c H locs cells slots Q (F0 m pc ls (.int x :: .int i :: .ref a :: rest)) := by
  subst hk; subst hn
  obtain ⟨f, h1, h2⟩ := hT.2.1 a h13
  have h1' := h1
  rw [ht] at h1
  refine W.iast hexec hb h1 ((hK.2 0 _ rfl).1 _ f) (fun q => by cases q) (by show ¬ (i < 0 ∨ (arrV _ _ _).slots.size ≤ _); rw [arrV_size]; exact vin hin) rfl rfl hdg fun H1 e z oq => ?_
  refine kk f H1 _ h2 ?_ oq (hS.put z oq (by show κ a ≠ 0; omega))
  rw [e, arrV_store, ht]
theorem tw_las0 (hexec : p.tables.exec = Jvm.exec) (hb : c.code = cc) (hK : KK D cy s) (hT : TW D cy κ G H) (hS : va_S (AA κ) H0 H locs) {K : Nat} (hk : κ a = K) (h13 : 13 ≤ K) (ht : aT K = 1) {n : Nat} (hn : aN K = n) {i : Int32} {x : Int64} (hin : 0 ≤ i.toInt ∧ i.toInt < (n : Int)) (hdg : decode cc pc = .ok (.lastore, 1))
    (kk : ∀ (f : Nat → Value) (H1 : Heap) (locs1 : List Loc), (∀ j, j < aN K → asp κ G K j (f j)) → H1[a]? = some (arrV (cy (aT K)) (aN K) (updV f i.toNatClampNeg (.long x))) → (∀ q : Nat, q ≠ a → H1[q]? = H[q]?) → va_S (AA κ) H0 H1 locs1 → W p l e R s m args below meth c H1 locs1 cells slots Q (F0 m (pc + 1) ls rest)) : W p l e R s m args below meth c H locs cells slots Q (F0 m pc ls (.long x :: .int i :: .ref a :: rest)) := by
  subst hk; subst hn
  obtain ⟨f, h1, h2⟩ := hT.2.1 a h13
  rw [ht] at h1
  refine W.last hexec hb h1 ((hK.2 1 _ rfl).1 _ f) (fun q => by cases q) (by show ¬ (i < 0 ∨ (arrV _ _ _).slots.size ≤ _); rw [arrV_size]; exact vin hin) rfl rfl hdg fun H1 e z oq => ?_
  refine kk f H1 _ h2 ?_ oq (hS.put z oq (by show κ a ≠ 0; omega))
  rw [e, arrV_store, ht]
theorem tw_ias (hexec : p.tables.exec = Jvm.exec) (hb : c.code = cc) (hK : KK D cy s) (hT : TW D cy κ G H) (hS : va_S (AA κ) H0 H locs) {K : Nat} (hk : κ a = K) (h13 : 13 ≤ K) (ht : aT K = 0) {n : Nat} (hn : aN K = n) {i x : Int32} (hin : 0 ≤ i.toInt ∧ i.toInt < (n : Int)) {P : Int32 → Prop} (hP : asp κ G K i.toNatClampNeg = is_I P) (hx : P x) (hdg : decode cc pc = .ok (.iastore, 1))
    (kk : ∀ (H1 : Heap) (locs1 : List Loc), TW D cy κ G H1 → va_S (AA κ) H0 H1 locs1 → (∀ q : Nat, q ≠ a → H1[q]? = H[q]?) → W p l e R s m args below meth c H1 locs1 cells slots Q (F0 m (pc + 1) ls rest)) : W p l e R s m args below meth c H locs cells slots Q (F0 m pc ls (.int x :: .int i :: .ref a :: rest)) := by
  refine tw_ias0 hexec hb hK hT hS hk h13 ht hn hin hdg (fun f H1 locs1 hf he hq hS1 => kk H1 locs1 ?_ hS1 hq)
  subst hk
  refine hT.ast h13 he (fun j hj => ?_) hq (fun _ _ _ _ h => h) (fun _ _ _ _ _ _ h => h)
  by_cases e : j = i.toNatClampNeg
  · subst e
    rw [hP]
    exact ⟨x, by simp [updV], hx⟩
  · simpa [updV, e] using hf j hj
theorem tw_las (hexec : p.tables.exec = Jvm.exec) (hb : c.code = cc) (hK : KK D cy s) (hT : TW D cy κ G H) (hS : va_S (AA κ) H0 H locs) {K : Nat} (hk : κ a = K) (h13 : 13 ≤ K) (ht : aT K = 1) {n : Nat} (hn : aN K = n) {i : Int32} {x : Int64} (hin : 0 ≤ i.toInt ∧ i.toInt < (n : Int)) {P : Int64 → Prop} (hP : asp κ G K i.toNatClampNeg = is_L P) (hx : P x) (hdg : decode cc pc = .ok (.lastore, 1))
    (kk : ∀ (H1 : Heap) (locs1 : List Loc), TW D cy κ G H1 → va_S (AA κ) H0 H1 locs1 → (∀ q : Nat, q ≠ a → H1[q]? = H[q]?) → W p l e R s m args below meth c H1 locs1 cells slots Q (F0 m (pc + 1) ls rest)) : W p l e R s m args below meth c H locs cells slots Q (F0 m pc ls (.long x :: .int i :: .ref a :: rest)) := by
  refine tw_las0 hexec hb hK hT hS hk h13 ht hn hin hdg (fun f H1 locs1 hf he hq hS1 => kk H1 locs1 ?_ hS1 hq)
  subst hk
  refine hT.ast h13 he (fun j hj => ?_) hq (fun _ _ _ _ h => h) (fun _ _ _ _ _ _ h => h)
  by_cases e : j = i.toNatClampNeg
  · subst e
    rw [hP]
    exact ⟨x, by simp [updV], hx⟩
  · simpa [updV, e] using hf j hj
/-- branches, in whole numbers -/
theorem z32 : (0 : Int32).toInt = 0 := rfl
theorem tb_if_eq (hexec : p.tables.exec = Jvm.exec) (hb : c.code = cc) {x : Int32} {off : Int} {tgt : Nat} (hdg : decode cc pc = .ok (.ifCond .eq off, 3)) (ht : (pc : Int) + off = (tgt : Int)) (kt : x.toInt = 0 → W p l e R s m args below meth c H locs cells slots Q (F0 m tgt ls rest)) (kf : x.toInt ≠ 0 → W p l e R s m args below meth c H locs cells slots Q (F0 m (pc + 3) ls rest)) : W p l e R s m args below meth c H locs cells slots Q (F0 m pc ls (.int x :: rest)) :=
  lv_if_eq hexec hb hdg ht (fun h => kt (by rw [h]; rfl)) (fun h => kf (fun q => h (eqI q)))
theorem tb_if_ne (hexec : p.tables.exec = Jvm.exec) (hb : c.code = cc) {x : Int32} {off : Int} {tgt : Nat} (hdg : decode cc pc = .ok (.ifCond .ne off, 3)) (ht : (pc : Int) + off = (tgt : Int)) (kt : x.toInt ≠ 0 → W p l e R s m args below meth c H locs cells slots Q (F0 m tgt ls rest)) (kf : x.toInt = 0 → W p l e R s m args below meth c H locs cells slots Q (F0 m (pc + 3) ls rest)) : W p l e R s m args below meth c H locs cells slots Q (F0 m pc ls (.int x :: rest)) := by
  refine lv_if_ne hexec hb hdg ht (fun h => kt (fun q => h (eqI q))) (fun h => kf ?_)
  have h2 : x = 0 := h
  rw [h2]; rfl
theorem tb_if_lt (hexec : p.tables.exec = Jvm.exec) (hb : c.code = cc) {x : Int32} {off : Int} {tgt : Nat} (hdg : decode cc pc = .ok (.ifCond .lt off, 3)) (ht : (pc : Int) + off = (tgt : Int)) (kt : x.toInt < 0 → W p l e R s m args below meth c H locs cells slots Q (F0 m tgt ls rest)) (kf : 0 ≤ x.toInt → W p l e R s m args below meth c H locs cells slots Q (F0 m (pc + 3) ls rest)) : W p l e R s m args below meth c H locs cells slots Q (F0 m pc ls (.int x :: rest)) :=
  lv_if_lt hexec hb hdg ht (fun h => kt (by rw [Int32.lt_iff_toInt_lt, z32] at h; exact h)) (fun h => kf (by rw [Int32.lt_iff_toInt_lt, z32] at h; omega))
theorem tb_if_ge (hexec : p.tables.exec = Jvm.exec) (hb : c.code = cc) {x : Int32} {off : Int} {tgt : Nat} (hdg : decode cc pc = .ok (.ifCond .ge off, 3)) (ht : (pc : Int) + off = (tgt : Int)) (kt : 0 ≤ x.toInt → W p l e R s m args below meth c H locs cells slots Q (F0 m tgt ls rest)) (kf : x.toInt < 0 → W p l e R s m args below meth c H locs cells slots Q (F0 m (pc + 3) ls rest)) : W p l e R s m args below meth c H locs cells slots Q (F0 m pc ls (.int x :: rest)) :=
  lv_if_ge hexec hb hdg ht (fun h => kt (by rw [Int32.le_iff_toInt_le, z32] at h; exact h)) (fun h => kf (by rw [Int32.le_iff_toInt_le, z32] at h; omega))
theorem tb_if_gt (hexec : p.tables.exec = Jvm.exec) (hb : c.code = cc) {x : Int32} {off : Int} {tgt : Nat} (hdg : decode cc pc = .ok (.ifCond .gt off, 3)) (ht : (pc : Int) + off = (tgt : Int)) (kt : 0 < x.toInt → W p l e R s m args below meth c H locs cells slots Q (F0 m tgt ls rest)) (kf : x.toInt ≤ 0 → W p l e R s m args below meth c H locs cells slots Q (F0 m (pc + 3) ls rest)) : W p l e R s m args below meth c H locs cells slots Q (F0 m pc ls (.int x :: rest)) :=
  lv_if_gt hexec hb hdg ht (fun h => kt (by rw [Int32.lt_iff_toInt_lt, z32] at h; exact h)) (fun h => kf (by rw [Int32.lt_iff_toInt_lt, z32] at h; omega))
theorem tb_if_le (hexec : p.tables.exec = Jvm.exec) (hb : c.code = cc) {x : Int32} {off : Int} {tgt : Nat} (hdg : decode cc pc = .ok (.ifCond .le off, 3)) (ht : (pc : Int) + off = (tgt : Int)) (kt : x.toInt ≤ 0 → W p l e R s m args below meth c H locs cells slots Q (F0 m tgt ls rest)) (kf : 0 < x.toInt → W p l e R s m args below meth c H locs cells slots Q (F0 m (pc + 3) ls rest)) : W p l e R s m args below meth c H locs cells slots Q (F0 m pc ls (.int x :: rest)) :=
  lv_if_le hexec hb hdg ht (fun h => kt (by rw [Int32.le_iff_toInt_le, z32] at h; exact h)) (fun h => kf (by rw [Int32.le_iff_toInt_le, z32] at h; omega))
theorem tb_icmp_eq (hexec : p.tables.exec = Jvm.exec) (hb : c.code = cc) {x y : Int32} {off : Int} {tgt : Nat} (hdg : decode cc pc = .ok (.if_icmp .eq off, 3)) (ht : (pc : Int) + off = (tgt : Int)) (kt : x.toInt = y.toInt → W p l e R s m args below meth c H locs cells slots Q (F0 m tgt ls rest)) (kf : x.toInt ≠ y.toInt → W p l e R s m args below meth c H locs cells slots Q (F0 m (pc + 3) ls rest)) : W p l e R s m args below meth c H locs cells slots Q (F0 m pc ls (.int y :: .int x :: rest)) :=
  lv_icmp_eq hexec hb hdg ht (fun h => kt (by rw [h])) (fun h => kf (fun q => h (eqI q)))
theorem tb_icmp_ne (hexec : p.tables.exec = Jvm.exec) (hb : c.code = cc) {x y : Int32} {off : Int} {tgt : Nat} (hdg : decode cc pc = .ok (.if_icmp .ne off, 3)) (ht : (pc : Int) + off = (tgt : Int)) (kt : x.toInt ≠ y.toInt → W p l e R s m args below meth c H locs cells slots Q (F0 m tgt ls rest)) (kf : x.toInt = y.toInt → W p l e R s m args below meth c H locs cells slots Q (F0 m (pc + 3) ls rest)) : W p l e R s m args below meth c H locs cells slots Q (F0 m pc ls (.int y :: .int x :: rest)) := by
  refine lv_icmp_ne hexec hb hdg ht (fun h => kt (fun q => h (eqI q))) (fun h => kf ?_)
  have h2 : x = y := h
  rw [h2]
theorem tb_icmp_lt (hexec : p.tables.exec = Jvm.exec) (hb : c.code = cc) {x y : Int32} {off : Int} {tgt : Nat} (hdg : decode cc pc = .ok (.if_icmp .lt off, 3)) (ht : (pc : Int) + off = (tgt : Int)) (kt : x.toInt < y.toInt → W p l e R s m args below meth c H locs cells slots Q (F0 m tgt ls rest)) (kf : y.toInt ≤ x.toInt → W p l e R s m args below meth c H locs cells slots Q (F0 m (pc + 3) ls rest)) : W p l e R s m args below meth c H locs cells slots Q (F0 m pc ls (.int y :: .int x :: rest)) :=
  lv_icmp_lt hexec hb hdg ht (fun h => kt (by rw [Int32.lt_iff_toInt_lt] at h; exact h)) (fun h => kf (by rw [Int32.lt_iff_toInt_lt] at h; omega))
theorem tb_icmp_ge (hexec : p.tables.exec = Jvm.exec) (hb : c.code = cc) {x y : Int32} {off : Int} {tgt : Nat} (hdg : decode cc pc = .ok (.if_icmp .ge off, 3)) (ht : (pc : Int) + off = (tgt : Int)) (kt : y.toInt ≤ x.toInt → W p l e R s m args below meth c H locs cells slots Q (F0 m tgt ls rest)) (kf : x.toInt < y.toInt → W p l e R s m args below meth c H locs cells slots Q (F0 m (pc + 3) ls rest)) : W p l e R s m args below meth c H locs cells slots Q (F0 m pc ls (.int y :: .int x :: rest)) :=
  lv_icmp_ge hexec hb hdg ht (fun h => kt (by rw [Int32.le_iff_toInt_le] at h; exact h)) (fun h => kf (by rw [Int32.le_iff_toInt_le] at h; omega))
theorem tb_icmp_gt (hexec : p.tables.exec = Jvm.exec) (hb : c.code = cc) {x y : Int32} {off : Int} {tgt : Nat} (hdg : decode cc pc = .ok (.if_icmp .gt off, 3)) (ht : (pc : Int) + off = (tgt : Int)) (kt : y.toInt < x.toInt → W p l e R s m args below meth c H locs cells slots Q (F0 m tgt ls rest)) (kf : x.toInt ≤ y.toInt → W p l e R s m args below meth c H locs cells slots Q (F0 m (pc + 3) ls rest)) : W p l e R s m args below meth c H locs cells slots Q (F0 m pc ls (.int y :: .int x :: rest)) :=
  lv_icmp_gt hexec hb hdg ht (fun h => kt (by rw [Int32.lt_iff_toInt_lt] at h; exact h)) (fun h => kf (by rw [Int32.lt_iff_toInt_lt] at h; omega))
theorem tb_icmp_le (hexec : p.tables.exec = Jvm.exec) (hb : c.code = cc) {x y : Int32} {off : Int} {tgt : Nat} (hdg : decode cc pc = .ok (.if_icmp .le off, 3)) (ht : (pc : Int) + off = (tgt : Int)) (kt : x.toInt ≤ y.toInt → W p l e R s m args below meth c H locs cells slots Q (F0 m tgt ls rest)) (kf : y.toInt < x.toInt → W p l e R s m args below meth c H locs cells slots Q (F0 m (pc + 3) ls rest)) : W p l e R s m args below meth c H locs cells slots Q (F0 m pc ls (.int y :: .int x :: rest)) :=
  lv_icmp_le hexec hb hdg ht (fun h => kt (by rw [Int32.le_iff_toInt_le] at h; exact h)) (fun h => kf (by rw [Int32.le_iff_toInt_le] at h; omega))
theorem tb_lcmp (hexec : p.tables.exec = Jvm.exec) (hb : c.code = cc) {x y : Int64} (hdg : decode cc pc = .ok (.lcmp, 1))
    (k : ∀ r : Int32, (r.toInt = 0 ↔ x = y) → (r.toInt < 0 ↔ x.toInt < y.toInt) → W p l e R s m args below meth c H locs cells slots Q (F0 m (pc + 1) ls (.int r :: rest))) : W p l e R s m args below meth c H locs cells slots Q (F0 m pc ls (.long y :: .long x :: rest)) := by
  refine W.lcmp hexec hb hdg (k _ ?_ ?_)
  · unfold lg_cmp
    by_cases h1 : x > y
    · rw [if_pos h1]
      refine ⟨fun h => absurd h (by decide), fun h => ?_⟩
      rw [h] at h1
      exact absurd (Int64.lt_iff_toInt_lt.mp h1) (by omega)
    · rw [if_neg h1]
      by_cases h2 : x = y
      · rw [if_pos h2]; exact ⟨fun _ => h2, fun _ => rfl⟩
      · rw [if_neg h2]; exact ⟨fun h => absurd h (by decide), fun h => absurd h h2⟩
  · have := lg_cmp_lt x y
    rw [Int32.lt_iff_toInt_lt, Int64.lt_iff_toInt_lt] at this
    exact this
end TWR
