/-! CONSTRUCTION: new int[4][3] comes into the world -/
section MNB
variable {p : Program} {l : Launch} {e : Env} {R : Room} {s : State} {m : MethodId} {args : Array Value} {below : List Frame} {meth : Method} {c : Code} {H : Heap} {locs : List Loc} {cells slots : Nat} {Q : State → Prop}
variable {cc : ByteArray} {pc : Nat} {ls : Array Slot} {rest : List Value} {D : va_G} {cy : Nat → ClassId} {κ0 κ : Nat → Nat} {sz h0 ci index : Nat} {H0 : Heap} {own : String} {V : Nat → Value} {ρ : Nat → Option Cell}
theorem ci_mna (hexec : p.tables.exec = Jvm.exec) (hb : c.code = cc) (hown : s.vm.findClass own = some m.cls) (hclink : (Cond.classLink own index "[[I").before args s = true) (hover : AOA s) (harr : (Cond.arrayClass .int).before args s = true) (hK : KK D cy s) (hk2 : ∀ b, κ b ≠ 2) (hC : CI D cy κ0 sz h0 ci κ ρ V H) (hS : va_S (AC κ0 h0 sz) H0 H locs) (hcells : cells + (1 + 4) ≤ R.cells) (hslots : slots + (4 + 4 * 3) ≤ R.slots) (hdg : decode cc pc = .ok (.multianewarray index 2, 4))
    (kk : ∀ (q : Nat) (κ1 : Nat → Nat) (H1 : Heap), CI D cy κ0 sz h0 ci κ1 ρ V H1 → ext κ κ1 → (∀ b, κ1 b ≠ 2) → κ1 q = 22 → va_S (AC κ0 h0 sz) H0 H1 locs → W p l e R s m args below meth c H1 locs (cells + (1 + 4)) (slots + (4 + 4 * 3)) Q (F0 m (pc + 4) ls (.ref q :: rest))) : W p l e R s m args below meth c H locs cells slots Q (F0 m pc ls (.int 3 :: .int 4 :: rest)) := by
  obtain ⟨hT, ho, k0, hx, hnew, hsing, hsz, hlt, hρ⟩ := hC
  refine r_mna hexec hb hown hclink hover harr hK hcells hslots hdg (fun H1 hz hq hout hin => ?_)
  obtain ⟨κ1, eκ⟩ : ∃ k : Nat → Nat, k = fun b => if b = H.size then 22 else if H.size < b ∧ b < H.size + 5 then 1003 else κ b := ⟨_, rfl⟩
  have kS : κ1 H.size = 22 := by rw [eκ]; exact if_pos rfl
  have kI : ∀ j, j < 4 → κ1 (H.size + 1 + j) = 1003 := fun j hj => by
    rw [eκ]; show (if H.size + 1 + j = H.size then 22 else if H.size < H.size + 1 + j ∧ H.size + 1 + j < H.size + 5 then 1003 else κ (H.size + 1 + j)) = 1003
    rw [if_neg (by omega), if_pos (by omega)]
  have kO : ∀ b, b ≠ H.size → ¬ (H.size < b ∧ b < H.size + 5) → κ1 b = κ b := fun b h1 h2 => by
    rw [eκ]; show (if b = H.size then 22 else if H.size < b ∧ b < H.size + 5 then 1003 else κ b) = κ b
    rw [if_neg h1, if_neg h2]
  have kB : ∀ b, H.size < b ∧ b < H.size + 5 → κ1 b = 1003 := fun b h => by
    have := kI (b - H.size - 1) (by omega)
    rw [show H.size + 1 + (b - H.size - 1) = b by omega] at this
    exact this
  have he : ext κ κ1 := fun b hb => by
    have := hT.lt hb
    exact kO b (by omega) (by omega)
  have hnz : ∀ b, κ1 b ≠ 0 → κ b ≠ 0 ∨ H.size ≤ b := fun b h => by
    by_cases h1 : H.size ≤ b
    · exact Or.inr h1
    · rw [kO b (by omega) (by omega)] at h
      exact Or.inl h
  have ns22 : ¬ sing 22 := by unfold sing; decide
  have ns3 : ¬ sing 1003 := by unfold sing; decide
  have old : ∀ b, sing (κ1 b) → κ1 b = κ b := fun b h => by
    by_cases h1 : b = H.size
    · rw [h1, kS] at h; exact absurd h ns22
    · by_cases h2 : H.size < b ∧ b < H.size + 5
      · rw [kB b h2] at h; exact absurd h ns3
      · exact kO b h1 h2
  have hT1 : TW D cy κ1 Z0 H1 := by
    refine ⟨fun b c2 hb2 hc2 => ?_, fun b hb2 => ?_, fun b c2 hbc hsg => ?_⟩
    · have hbl : κ b ≠ 0 := by
        by_cases h1 : b = H.size
        · rw [h1, kS] at hb2; omega
        · by_cases h2 : H.size < b ∧ b < H.size + 5
          · rw [kB b h2] at hb2; omega
          · rw [kO b h1 h2] at hb2; omega
      rw [he b hbl] at hb2
      obtain ⟨V0, h1, h2⟩ := hT.1 b c2 hb2 hc2
      exact ⟨V0, h1.kept (hq b (hT.lt hbl)), fun k hk => fsp_mono he (h2 k hk)⟩
    · by_cases h1 : b = H.size
      · rw [h1, kS]
        refine ⟨_, hout, fun j hj => ?_⟩
        have hj4 : j < 4 := hj
        exact ⟨H.size + 1 + j, if_pos hj4, kI j hj4⟩
      · by_cases h2 : H.size < b ∧ b < H.size + 5
        · rw [kB b h2]
          have := hin (b - H.size - 1) (by omega)
          rw [show H.size + 1 + (b - H.size - 1) = b by omega] at this
          exact ⟨_, this, fun j hj => ⟨0, rfl, trivial⟩⟩
        · rw [kO b h1 h2] at hb2 ⊢
          obtain ⟨f, h3, h4⟩ := hT.2.1 b hb2
          exact ⟨f, by rw [hq b (hT.lt (by omega))]; exact h3, fun j hj => asp_mono he (h4 j hj)⟩
    · have e1 := old b hsg
      have e2 := old c2 (by rw [← hbc]; exact hsg)
      exact hT.2.2 b c2 (by rw [← e1, ← e2]; exact hbc) (by rw [← e1]; exact hsg)
  have hS1 : va_S (AC κ0 h0 sz) H0 H1 locs := ⟨Nat.le_trans hS.1 (by omega), fun x h1 h2 => (hq x (Nat.lt_of_lt_of_le h1 hS.1)).trans (hS.2.1 x h1 h2), hS.2.2⟩
  refine kk H.size κ1 H1 ⟨hT1, ho.kept (hq h0 (by omega)), by rw [kO h0 (by omega) (by omega)]; exact k0, hx.tr he, fun b h => ?_, fun b h => ?_, by omega, hlt, fun b cell h => ?_⟩ he (fun b hb => hk2 b (by rw [← old b (by rw [hb]; unfold sing; omega)]; exact hb)) kS hS1
  · rcases hnz b h with h1 | h1
    · exact hnew b h1
    · exact Or.inr (by omega)
  · have e1 := old b h
    rw [e1] at h ⊢
    exact hsing b h
  · obtain ⟨r1, r2, r3⟩ := hρ b cell h
    have hbl : b < H.size := (Array.getElem?_eq_some_iff.mp r1).1
    exact ⟨by rw [hq b hbl]; exact r1, by rw [kO b (by omega) (by omega)]; exact r2, r3⟩
end MNB
