/-! CONSTRUCTION: a new cell comes into the world -/
def Z0 : Gh := (fun _ => 0, fun _ => 0)
def ext (κ κ' : Nat → Nat) : Prop := ∀ b, κ b ≠ 0 → κ' b = κ b
theorem ext.rf (κ : Nat → Nat) : ext κ κ := fun _ _ => rfl
theorem ext.tr {a b c : Nat → Nat} (h : ext a b) (h2 : ext b c) : ext a c := fun x hx => (h2 x (by rw [h x hx]; exact hx)).trans (h x hx)
theorem ext.up {κ : Nat → Nat} {a K : Nat} (h : κ a = 0) : ext κ (va_up κ a K) := fun b hb => if_neg (fun e => hb (by rw [e]; exact h))
theorem iteM {c : Prop} [Decidable c] {a b a' b' : Value → Prop} {w : Value} (h1 : a w → a' w) (h2 : b w → b' w) : (if c then a else b) w → (if c then a' else b') w := by
  by_cases q : c
  · rw [if_pos q, if_pos q]; exact h1
  · rw [if_neg q, if_neg q]; exact h2
theorem toK_mono {κ κ' : Nat → Nat} (h : ext κ κ') {K : Nat} (hK : K ≠ 0) {w : Value} : toK κ K w → toK κ' K w := by
  rintro ⟨b, e1, e2⟩
  have e2 : κ b = K := e2
  exact ⟨b, e1, (h b (by omega)).trans e2⟩
theorem fsp_mono {κ κ' : Nat → Nat} (h : ext κ κ') {G : Gh} {K k a : Nat} {w : Value} : fsp κ G K k a w → fsp κ' G K k a w := by
  unfold fsp fs_2 fs_11 fs_12 fs_0
  repeat' (first | exact id | exact toK_mono h (by decide) | refine iteM ?_ ?_)
theorem asp_mono {κ κ' : Nat → Nat} (h : ext κ κ') {G : Gh} {K j : Nat} {w : Value} : asp κ G K j w → asp κ' G K j w := by
  unfold asp
  repeat' (first | exact id | exact toK_mono h (by decide) | refine iteM ?_ ?_)
theorem TW.lt {D : va_G} {cy : Nat → ClassId} {κ : Nat → Nat} {G : Gh} {H : Heap} (hT : TW D cy κ G H) {a : Nat} (h : κ a ≠ 0) : a < H.size := by
  by_cases h13 : 13 ≤ κ a
  · obtain ⟨f, h1, -⟩ := hT.2.1 a h13
    exact (Array.getElem?_eq_some_iff.mp h1).1
  · obtain ⟨V, ⟨cell, h1, -⟩, -⟩ := hT.1 a (κ a - 1) (by omega) (by omega)
    exact (Array.getElem?_eq_some_iff.mp h1).1
theorem TW.none {D : va_G} {cy : Nat → ClassId} {κ : Nat → Nat} {G : Gh} {H : Heap} (hT : TW D cy κ G H) {a : Nat} (h : H.size ≤ a) : κ a = 0 := by
  by_cases q : κ a = 0
  · exact q
  · exact absurd (hT.lt q) (by omega)
theorem TW.kept {D : va_G} {cy : Nat → ClassId} {κ : Nat → Nat} {G : Gh} {H H1 : Heap} (hT : TW D cy κ G H) (hq : ∀ a, κ a ≠ 0 → H1[a]? = H[a]?) : TW D cy κ G H1 := by
  refine ⟨fun b c hb hc => ?_, fun b hb => ?_, hT.2.2⟩
  · obtain ⟨V, h1, h2⟩ := hT.1 b c hb hc
    exact ⟨V, h1.kept (hq b (by omega)), h2⟩
  · obtain ⟨f, h1, h2⟩ := hT.2.1 b hb
    exact ⟨f, by rw [hq b (by omega)]; exact h1, h2⟩
theorem TW.seal {D : va_G} {cy : Nat → ClassId} {κ : Nat → Nat} {G : Gh} {H : Heap} (hT : TW D cy κ G H) {a K : Nat} (h0 : κ a = 0) (hK : 0 < K)
    (ho : ∀ ci, K = ci + 1 → ci < 12 → ∃ V : Nat → Value, t_OB a (D.1 ci) (nF ci) (D.2 ci) H V ∧ ∀ k, k < nF ci → fsp (va_up κ a K) G (ci + 1) k a (V k))
    (ha : 13 ≤ K → ∃ f : Nat → Value, H[a]? = some (arrV (cy (aT K)) (aN K) f) ∧ ∀ j, j < aN K → asp (va_up κ a K) G K j (f j)) (hs : sing K → ∀ b, κ b ≠ K) : TW D cy (va_up κ a K) G H := by
  have he : ext κ (va_up κ a K) := ext.up h0
  have ea : va_up κ a K a = K := if_pos rfl
  have eb : ∀ b, b ≠ a → va_up κ a K b = κ b := fun b hb => if_neg hb
  refine ⟨fun b c hb hc => ?_, fun b hb => ?_, fun b c hbc hsg => ?_⟩
  · by_cases e : b = a
    · subst e
      rw [ea] at hb
      exact ho c hb hc
    · rw [eb b e] at hb
      obtain ⟨V, h1, h2⟩ := hT.1 b c hb hc
      exact ⟨V, h1, fun k hk => fsp_mono he (h2 k hk)⟩
  · by_cases e : b = a
    · subst e
      rw [ea] at hb ⊢
      exact ha hb
    · rw [eb b e] at hb ⊢
      obtain ⟨f, h1, h2⟩ := hT.2.1 b hb
      exact ⟨f, h1, fun j hj => asp_mono he (h2 j hj)⟩
  · by_cases e : b = a
    · by_cases e2 : c = a
      · rw [e, e2]
      · rw [e, ea, eb c e2] at hbc
        rw [e, ea] at hsg
        exact absurd hbc.symm (hs hsg c)
    · by_cases e2 : c = a
      · rw [e2, ea, eb b e] at hbc
        rw [eb b e, hbc] at hsg
        exact absurd hbc (hs hsg b)
      · rw [eb b e, eb c e2] at hbc
        rw [eb b e] at hsg
        exact hT.2.2 b c hbc hsg
