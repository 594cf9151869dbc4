/-! numbers -/
theorem ti_and3 (x : Int32) : 0 ≤ (x &&& 3).toInt ∧ (x &&& 3).toInt ≤ 3 := by
  obtain ⟨j, hj, h⟩ := pk_andE x (m := 3) 2 rfl
  rw [h, nI_toInt (by omega)]; omega
theorem ti_and31 (x : Int32) : 0 ≤ (x &&& 31).toInt ∧ (x &&& 31).toInt ≤ 31 := by
  obtain ⟨j, hj, h⟩ := pk_andE x (m := 31) 5 rfl
  rw [h, nI_toInt (by omega)]; omega
theorem ti_div {x y : Int32} {c : Int} (hc : y.toInt = c) (hx : 0 ≤ x.toInt) (h : 1 < c) : (x / y).toInt = x.toInt / c := by
  have hb := i32b x
  rw [Int32.toInt_div, hc, Int.tdiv_eq_ediv_of_nonneg hx]
  have h1 : 0 ≤ x.toInt / c := Int.ediv_nonneg hx (by omega)
  have h2 : x.toInt / c ≤ x.toInt := Int.ediv_le_self _ hx
  exact Int.bmod_eq_of_le (by omega) (by omega)
theorem ti_rem {x y : Int32} {c : Int} (hc : y.toInt = c) (hx : 0 ≤ x.toInt) (h : 1 < c) : (x % y).toInt = x.toInt % c := by
  rw [Int32.toInt_mod, hc, Int.tmod_eq_emod_of_nonneg hx]
theorem ne64 {y : Int64} (h : y.toInt ≠ 0) : ¬ y = 0 := fun e => h (by rw [e]; rfl)
theorem eq64 {x y : Int64} (h : x.toInt = y.toInt) : x = y := Int64.toInt_inj.mp h
theorem neg64 (x : Int64) : (-x).toInt = 0 ↔ x.toInt = 0 := by
  constructor
  · intro h
    have h1 : -x = 0 := eq64 (by rw [h]; rfl)
    have h2 : x = 0 := by
      have := congrArg (fun z => -z) h1
      simpa using this
    rw [h2]; rfl
  · intro h
    have h1 : x = 0 := eq64 (by rw [h]; rfl)
    rw [h1]; rfl
theorem zor {x : Int32} (h : x = 0 ∨ x = 1) : 0 ≤ x.toInt ∧ x.toInt ≤ 1 := by
  rcases h with rfl | rfl <;> decide
theorem zro {x : Int32} (h : x.toInt = 0 ∨ x.toInt = 1) : x = 0 ∨ x = 1 := by
  rcases h with h | h
  · exact Or.inl (eqI h)
  · exact Or.inr (eqI h)
section TWN
variable {p : Program} {l : Launch} {e : Env} {R : Room} {s : State} {m : MethodId} {args : Array Value} {below : List Frame} {meth : Method} {c : Code} {H : Heap} {locs : List Loc} {cells slots : Nat} {Q : State → Prop}
variable {cc : ByteArray} {pc : Nat} {ls : Array Slot} {rest : List Value}
theorem tb_lcmp2 (hexec : p.tables.exec = Jvm.exec) (hb : c.code = cc) {x y : Int64} (hdg : decode cc pc = .ok (.lcmp, 1))
    (k : ∀ r : Int32, (r.toInt = 0 ↔ x.toInt = y.toInt) → (r.toInt < 0 ↔ x.toInt < y.toInt) → W p l e R s m args below meth c H locs cells slots Q (F0 m (pc + 1) ls (.int r :: rest))) : W p l e R s m args below meth c H locs cells slots Q (F0 m pc ls (.long y :: .long x :: rest)) :=
  tb_lcmp hexec hb hdg (fun r h1 h2 => k r ⟨fun h => by rw [h1.mp h], fun h => h1.mpr (eq64 h)⟩ h2)
end TWN
