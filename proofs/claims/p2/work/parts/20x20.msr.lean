/-! how much of the trial plate is left to break -/
def msrN (g : Gh) : Nat → Nat
  | 0 => 0
  | n + 1 => msrN g n + (2 - (g.1 (248 + n)).toInt).toNat
theorem TW.br {D : va_G} {cy : Nat → ClassId} {κ : Nat → Nat} {G : Gh} {H : Heap} {a : Nat} (hT : TW D cy κ G H) (hk : κ a = 12) : ∀ j, j < 60 → 0 ≤ (G.1 (200 + j)).toInt ∧ (G.1 (200 + j)).toInt ≤ 2 := by
  intro j hj
  obtain ⟨V, -, hV⟩ := hT.1 a 11 hk (by decide)
  obtain ⟨b, -, hb⟩ := (hV 17 (by decide) : toK κ 52 (V 17))
  have hb : κ b = 52 := hb
  obtain ⟨f, -, hf⟩ := hT.2.1 b (by omega)
  rw [hb] at hf
  obtain ⟨x, -, e1, e2⟩ := (hf j hj : is_I (fun x => x = G.1 (200 + j) ∧ rng 0 2 x) (f j))
  rw [← e1]
  exact e2
theorem msr_le {g : Gh} (h : ∀ j, j < 60 → 0 ≤ (g.1 (200 + j)).toInt ∧ (g.1 (200 + j)).toInt ≤ 2) : ∀ n, n ≤ 12 → msrN g n ≤ 2 * n
  | 0, _ => Nat.le_refl 0
  | n + 1, hn => by
    have h1 := msr_le h n (by omega)
    have h2 := h (48 + n) (by omega)
    have e : 200 + (48 + n) = 248 + n := by omega
    rw [e] at h2
    show msrN g n + (2 - (g.1 (248 + n)).toInt).toNat ≤ 2 * (n + 1)
    omega
theorem msr_eq {u g : Gh} {k : Nat} (h : ∀ j, 200 ≤ j → j ≠ 200 + k → u.1 j = g.1 j) : ∀ n, 48 + n ≤ k → msrN u n = msrN g n
  | 0, _ => rfl
  | n + 1, hn => by
    show msrN u n + (2 - (u.1 (248 + n)).toInt).toNat = msrN g n + (2 - (g.1 (248 + n)).toInt).toNat
    rw [msr_eq h n (by omega), h (248 + n) (by omega) (by omega)]
theorem msr_dec {u g : Gh} {k : Nat} (h : ∀ j, 200 ≤ j → j ≠ 200 + k → u.1 j = g.1 j) (hk : 48 ≤ k) (hlt : (g.1 (200 + k)).toInt < (u.1 (200 + k)).toInt ∧ (u.1 (200 + k)).toInt ≤ 2) : ∀ n, k < 48 + n → msrN u n < msrN g n
  | 0, hn => by omega
  | n + 1, hn => by
    show msrN u n + (2 - (u.1 (248 + n)).toInt).toNat < msrN g n + (2 - (g.1 (248 + n)).toInt).toNat
    by_cases e : k = 48 + n
    · rw [msr_eq h n (by omega)]
      have e2 : 200 + k = 248 + n := by omega
      rw [e2] at hlt
      omega
    · have := msr_dec h hk hlt n (by omega)
      rw [h (248 + n) (by omega) (by omega)]
      omega
theorem msr_pos {g : Gh} {k : Nat} (hk : 48 ≤ k) (hlt : (g.1 (200 + k)).toInt < 2) : ∀ n, k < 48 + n → 1 ≤ msrN g n
  | 0, hn => by omega
  | n + 1, hn => by
    show 1 ≤ msrN g n + (2 - (g.1 (248 + n)).toInt).toNat
    by_cases e : k = 48 + n
    · have e2 : 200 + k = 248 + n := by omega
      rw [e2] at hlt
      omega
    · have := msr_pos hk hlt n (by omega)
      omega
/-- what the first share says of the layer that breaks -/
theorem okF.lt {G : Gh} {p b : Int} {k : Nat} (h : okF G p b) (hk : (12 * p + b / 10).toNat = k) (hbr : 0 ≤ (G.1 (200 + k)).toInt ∧ (G.1 (200 + k)).toInt ≤ 2) : (G.1 (200 + k)).toInt < 2 ∧ (b % 10 < 2 ∨ (G.1 (200 + k)).toInt < 1) ∧ 0 ≤ b ∧ b / 10 ≤ 11 ∧ b % 10 ≤ 4 := by
  subst hk
  obtain ⟨h1, h2, h3, h4, h5, h6⟩ := h
  omega
theorem msr_same {u g : Gh} (h : ∀ j, 200 ≤ j → u.1 j = g.1 j) : msrN u 12 = msrN g 12 := msr_eq (k := 60) (fun j h1 _ => h j h1) 12 (by omega)
