/-! CONSTRUCTION: rows of references under construction; new objects with constructors of their own -/
theorem CI.rho {D : va_G} {cy : Nat → ClassId} {κ0 κ : Nat → Nat} {sz h0 ci : Nat} {ρ ρ1 : Nat → Option Cell} {V : Nat → Value} {H : Heap} (h : CI D cy κ0 sz h0 ci κ ρ V H) (hr : ∀ a cell, ρ1 a = some cell → H[a]? = some cell ∧ κ a = 0 ∧ sz ≤ a) : CI D cy κ0 sz h0 ci κ ρ1 V H := by
  obtain ⟨hT, ho, k0, hx, hnew, hsing, hsz, hlt, -⟩ := h
  exact ⟨hT, ho, k0, hx, hnew, hsing, hsz, hlt, hr⟩
theorem fill_step {κ : Nat → Nat} {K i v : Nat} {f f1 : Nat → Value} (h : ∀ j, j < i → toK κ K (f j)) (hv : κ v = K) (h1 : f1 i = .ref v) (h2 : ∀ j, j ≠ i → f1 j = f j) : ∀ j, j < i + 1 → toK κ K (f1 j) := by
  intro j hj
  by_cases e : j = i
  · subst e; exact ⟨v, h1, hv⟩
  · rw [h2 j e]; exact h j (by omega)
theorem fill_mono {κ κ' : Nat → Nat} {K i : Nat} {f : Nat → Value} (he : ext κ κ') (hK : K ≠ 0) (h : ∀ j, j < i → toK κ K (f j)) : ∀ j, j < i → toK κ' K (f j) := fun j hj => toK_mono he hK (h j hj)
section CIA
variable {p : Program} {l : Launch} {e : Env} {R : Room} {s : State} {m : MethodId} {args : Array Value} {below : List Frame} {meth : Method} {c : Code} {H : Heap} {locs : List Loc} {cells slots : Nat} {Q : State → Prop}
variable {cc : ByteArray} {pc : Nat} {ls : Array Slot} {rest st As : List Value} {D : va_G} {cy : Nat → ClassId} {κ0 κ : Nat → Nat} {sz h0 ci nL n index maxL : Nat} {H0 : Heap} {own host : String} {Ts ws : List Cond} {V V2 : Nat → Value} {ρ : Nat → Option Cell} {y : MethodName} {rm : Room} {bytes : ByteArray}
theorem ci_anew (hexec : p.tables.exec = Jvm.exec) (hb : c.code = cc) {C : String} (hown : s.vm.findClass own = some m.cls) (hclink : (Cond.classLink own index C).before args s = true) (hover : va_AO C s) (hK : KK D cy s) {t : Nat} (htt : (tysOf cy)[t]? = some (cy t, .object C)) (hC : CI D cy κ0 sz h0 ci κ ρ V H) (hS : va_S (AC κ0 h0 sz) H0 H locs) {n : Int32} {N : Nat} (hn : ¬ n < 0) (hNn : n.toNatClampNeg = N) (hby : N * 4 ≤ 536870912) (hcells : cells + 1 ≤ R.cells) (hslots : slots + N ≤ R.slots) (hdg : decode cc pc = .ok (.anewarray index, 3))
    (kk : ∀ (q : Nat) (ρ1 : Nat → Option Cell) (f : Nat → Value) (H1 : Heap), CI D cy κ0 sz h0 ci κ ρ1 V H1 → ρ1 q = some (arrV (cy t) N f) → (∀ b, b ≠ q → ρ1 b = ρ b) → ρ q = none → va_S (AC κ0 h0 sz) H0 H1 locs → W p l e R s m args below meth c H1 locs (cells + 1) (slots + N) Q (F0 m (pc + 3) ls (.ref q :: rest))) : W p l e R s m args below meth c H locs cells slots Q (F0 m pc ls (.int n :: rest)) := by
  obtain ⟨hT, ho, k0, hx, hnew, hsing, hsz, hlt, hρ⟩ := hC
  refine r_anew hexec hb hown hclink hover hK htt hT hS hn hNn hby hcells hslots hdg (fun H1 hT1 ha hS1 hq hz => ?_)
  have hρn : ρ H.size = none := by
    cases e : ρ H.size with
    | none => rfl
    | some cell => exact absurd (Array.getElem?_eq_some_iff.mp (hρ _ cell e).1).1 (by omega)
  refine kk H.size (va_up ρ H.size (some (arrV (cy t) N (fun _ => .null)))) (fun _ => .null) H1 ⟨hT1, ho.kept (hq h0 (by omega)), k0, hx, hnew, hsing, by omega, hlt, fun a cell h => ?_⟩ (if_pos rfl) (fun b hb => if_neg hb) hρn hS1
  by_cases e : a = H.size
  · rw [e, show va_up ρ H.size (some (arrV (cy t) N (fun _ => .null))) H.size = some (arrV (cy t) N (fun _ => .null)) from if_pos rfl] at h
    rw [e, ← h]
    exact ⟨ha, hT.none (Nat.le_refl _), hsz⟩
  · rw [show va_up ρ H.size (some (arrV (cy t) N (fun _ => .null))) a = ρ a from if_neg e] at h
    obtain ⟨r1, r2, r3⟩ := hρ a cell h
    exact ⟨by rw [hq a (Array.getElem?_eq_some_iff.mp r1).1]; exact r1, r2, r3⟩
theorem ci_aast (hexec : p.tables.exec = Jvm.exec) (hb : c.code = cc) (hK : KK D cy s) (hC : CI D cy κ0 sz h0 ci κ ρ V H) (hS : va_S (AC κ0 h0 sz) H0 H locs) {t cj v N a : Nat} {r : vw_C} (htt : (tysOf cy)[t]? = some (cy t, .object r.1)) (hc : vwCl[cj]? = some r) (hv : κ v = cj + 1) (hcj : cj < 12) {f : Nat → Value} (ha : ρ a = some (arrV (cy t) N f)) {i : Int32} (hin : 0 ≤ i.toInt ∧ i.toInt < (N : Int)) (hdg : decode cc pc = .ok (.aastore, 1))
    (kk : ∀ (ρ1 : Nat → Option Cell) (f1 : Nat → Value) (H1 : Heap) (locs1 : List Loc), CI D cy κ0 sz h0 ci κ ρ1 V H1 → ρ1 a = some (arrV (cy t) N f1) → (∀ b, b ≠ a → ρ1 b = ρ b) → f1 i.toNatClampNeg = .ref v → (∀ j, j ≠ i.toNatClampNeg → f1 j = f j) → va_S (AC κ0 h0 sz) H0 H1 locs1 → W p l e R s m args below meth c H1 locs1 cells slots Q (F0 m (pc + 1) ls rest)) : W p l e R s m args below meth c H locs cells slots Q (F0 m pc ls (.ref v :: .int i :: .ref a :: rest)) := by
  obtain ⟨hT, ho, k0, hx, hnew, hsing, hsz, hlt, hρ⟩ := hC
  obtain ⟨r1, r2, r3⟩ := hρ a _ ha
  refine r_aast hexec hb hK hT hS htt hc hv hcj r1 r2 (Or.inr (Or.inr r3)) hin hdg (fun H1 locs1 hT1 ha1 hS1 hq hz => ?_)
  refine kk (va_up ρ a (some (arrV (cy t) N (updV f i.toNatClampNeg (.ref v))))) (updV f i.toNatClampNeg (.ref v)) H1 locs1 ⟨hT1, ho.kept (hq h0 (by omega)), k0, hx, hnew, hsing, by omega, hlt, fun b cell h => ?_⟩ (if_pos rfl) (fun b hb => if_neg hb) (if_pos rfl) (fun j hj => if_neg hj) hS1
  by_cases e : b = a
  · rw [e, show va_up ρ a (some (arrV (cy t) N (updV f i.toNatClampNeg (.ref v)))) a = some (arrV (cy t) N (updV f i.toNatClampNeg (.ref v))) from if_pos rfl] at h
    rw [e, ← h]
    exact ⟨ha1, r2, r3⟩
  · rw [show va_up ρ a (some (arrV (cy t) N (updV f i.toNatClampNeg (.ref v)))) b = ρ b from if_neg e] at h
    obtain ⟨e1, e2, e3⟩ := hρ b cell h
    exact ⟨by rw [hq b e]; exact e1, e2, e3⟩
end CIA
/-- a row of references that is filled comes into the world -/
theorem CI.sealA {D : va_G} {cy : Nat → ClassId} {κ0 κ : Nat → Nat} {sz h0 ci a K : Nat} {ρ : Nat → Option Cell} {V f : Nat → Value} {H : Heap} (h : CI D cy κ0 sz h0 ci κ ρ V H) (ha : ρ a = some (arrV (cy (aT K)) (aN K) f)) (h13 : 13 ≤ K) (hsg : ¬ sing K) (hf : ∀ j, j < aN K → asp (va_up κ a K) Z0 K j (f j)) : CI D cy κ0 sz h0 ci (va_up κ a K) (fun b => if b = a then none else ρ b) V H := by
  obtain ⟨hT, ho, k0, hx, hnew, hsing, hsz, hlt, hρ⟩ := h
  obtain ⟨r1, r2, r3⟩ := hρ a _ ha
  have hne : h0 ≠ a := by omega
  refine ⟨hT.seal r2 (by omega) (fun c2 hc2 _ => absurd hc2 (by omega)) (fun _ => ⟨f, r1, hf⟩) (fun h => absurd h hsg), ho, by rw [show va_up κ a K h0 = κ h0 from if_neg hne]; exact k0, hx.tr (ext.up r2), fun q h => ?_, fun b h => ?_, hsz, hlt, fun b cell h => ?_⟩
  · by_cases e : q = a
    · exact Or.inr (by omega)
    · rw [show va_up κ a K q = κ q from if_neg e] at h
      exact hnew q h
  · by_cases e : b = a
    · rw [e, show va_up κ a K a = K from if_pos rfl] at h
      exact absurd h hsg
    · rw [show va_up κ a K b = κ b from if_neg e] at h ⊢
      exact hsing b h
  · have h : (if b = a then none else ρ b) = some cell := h
    by_cases e : b = a
    · rw [if_pos e] at h; cases h
    · rw [if_neg e] at h
      obtain ⟨e1, e2, e3⟩ := hρ b cell h
      exact ⟨e1, by rw [show va_up κ a K b = κ b from if_neg e]; exact e2, e3⟩
