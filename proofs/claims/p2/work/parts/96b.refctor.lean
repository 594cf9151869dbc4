/-! CONSTRUCTION of the reference: its constructor -/
def COm (κ0 : Nat → Nat) (sz h0 : Nat) (κ' : Nat → Nat) : Prop := ext κ0 κ' ∧ κ' h0 = 12 ∧ (∀ q, κ' q ≠ 0 → κ0 q ≠ 0 ∨ q = h0 ∨ sz ≤ q)
def noM (κ : Nat → Nat) : Prop := ∀ b, κ b ≠ 12 ∧ κ b ≠ 50 ∧ κ b ≠ 51 ∧ κ b ≠ 52 ∧ κ b ≠ 53 ∧ κ b ≠ 54
theorem CI.noM {D : va_G} {cy : Nat → ClassId} {κ0 κ : Nat → Nat} {sz h0 ci : Nat} {ρ : Nat → Option Cell} {V : Nat → Value} {H : Heap} (h : CI D cy κ0 sz h0 ci κ ρ V H) (hm : noM κ0) : noM κ := by
  have hs := h.2.2.2.2.2.1
  have key : ∀ K, (K = 12 ∨ K = 50 ∨ K = 51 ∨ K = 52 ∨ K = 53 ∨ K = 54) → ∀ b, κ b = K → False := by
    intro K hK b hb
    have h1 : sing (κ b) := by rw [hb]; unfold sing; omega
    have h2 := hm b
    rcases hs b h1 with h3 | h3
    · rw [h3, hb] at h2; omega
    · omega
  exact fun b => ⟨key 12 (by omega) b, key 50 (by omega) b, key 51 (by omega) b, key 52 (by omega) b, key 53 (by omega) b, key 54 (by omega) b⟩
theorem up_no {κ : Nat → Nat} {a K K' : Nat} (h : ∀ b, κ b ≠ K) (hK : K' ≠ K) : ∀ b, va_up κ a K' b ≠ K := by
  intro b
  by_cases e : b = a
  · rw [e, show va_up κ a K' a = K' from if_pos rfl]; exact hK
  · rw [show va_up κ a K' b = κ b from if_neg e]; exact h b
theorem up_z {κ : Nat → Nat} {a b K : Nat} (h : κ b = 0) (hn : b ≠ a) : va_up κ a K b = 0 := (if_neg hn).trans h
theorem up_nz {κ : Nat → Nat} {a K sz h0 : Nat} {κ0 : Nat → Nat} (h : ∀ q, κ q ≠ 0 → κ0 q ≠ 0 ∨ q = h0 ∨ sz ≤ q) (ha : a = h0 ∨ sz ≤ a) : ∀ q, va_up κ a K q ≠ 0 → κ0 q ≠ 0 ∨ q = h0 ∨ sz ≤ q := by
  intro q hq
  by_cases e : q = a
  · rw [e]; exact Or.inr ha
  · rw [show va_up κ a K q = κ q from if_neg e] at hq; exact h q hq
section TWM
variable {l : Launch} {D : va_G} {cy : Nat → ClassId} {κ0 : Nat → Nat}
theorem Met.twm {y : MethodName} {ws ws' : List Cond} {rm : Room} {cc : ByteArray} {maxL sz h0 ci mc ms : Nat} {V : Nat → Value} {av : List Value} (hy : plainName y.cls = true) (hn : y.name = "<init>") (hw : ws = Cond.code y cc maxL none :: ws') (hle : (lg_sl av).length ≤ maxL) (hk0 : κ0 h0 = 0) (hlt : h0 < sz)
    (body : ∀ (p : Program) (e : Env) (s : State) (m : MethodId) (args : Array Value) (below : List Frame) (meth : Method) (c : Code) (Q : State → Prop), p.tables.exec = Jvm.exec → c.code = cc → c.maxLocals = maxL → s.vm.findClass y.cls = some m.cls → (∀ w ∈ ws, w.before args s = true) → meth.name = "<init>" → KK D cy s → NW s → CI D cy κ0 sz h0 ci κ0 (fun _ => none) V s.heap →
      (∀ (H : Heap) (locs : List Loc) (ls : Array Slot) (pc : Nat) (κ' : Nat → Nat), decode cc pc = .ok (.return_, 1) → COm κ0 sz h0 κ' → TW D cy κ' Z0 H → va_S (AC κ0 h0 sz) s.heap H locs → W p l e rm s m args below meth c H locs mc ms Q (F0 m pc ls [])) →
      ∀ ls : Array Slot, lv_has ls maxL (lv_args 0 av) → W p l e rm s m args below meth c s.heap [] 0 0 Q (F0 m 0 ls [])) :
    Met l y ws rm (va_Pc av (CP D cy κ0 sz h0 ci V)) (va_Qv (fun κ' => COm κ0 sz h0 κ') (fun κ' t => CQ D cy κ' t) (AC κ0 h0 sz)) mc ms (AC κ0 h0 sz) := by
  refine Met.ofW (cc := cc) (maxL := maxL) (ret := none) hy hw ?_
  intro p e s m args below meth c s₁ B hml hv
  obtain ⟨ha, hsz, hT, hK, hN, ho⟩ := hv
  have hlocks := B.notSynchronized
  have hts := atoms_spec (ws := ws) B.pre
  have hname : meth.name = "<init>" := ((name_of_methodNamed B.named B.method).1).trans hn
  have key := body p e s m args below meth c (MQ below (va_Qv (fun κ' => COm κ0 sz h0 κ') (fun κ' t => CQ D cy κ' t) (AC κ0 h0 sz)) args s mc ms (AC κ0 h0 sz)) B.exec B.bytes hml (findClass_of_methodNamed B.named) hts hname hK hN
    ⟨hT, ho, hk0, ext.rf κ0, fun q h => Or.inl h, fun b _ => Or.inl rfl, by omega, hlt, fun a cell h => by cases h⟩
    (fun H locs ls pc κ' hd hp hT' hS => W.vret B.exec B.bytes B.returns (fun t ht hW => ⟨⟨κ', rfl, hp, by rw [ht]; exact hT', va_K.moved hW.alike hK⟩, hS.F ht⟩) hS.2.2 hd)
  have hl := lv_entry av (n := maxL) hle
  subst ha
  rw [lg_entry_eq]
  exact key _ hl
end TWM
