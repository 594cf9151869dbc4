/-! what a method of the reference leaves as it was -/
theorem cG_at (G : Gh) (i : Nat) (x : Int32) : (cG G i x).1 i = x := if_pos rfl
theorem cL_at (G : Gh) (y : Int64) : (cL G y).2 0 = y := rfl
def cntG (u G : Gh) : Prop := ∀ i, i < 6 → u.1 i = G.1 i
def midG (u G : Gh) : Prop := (∀ i, i < 100 → u.1 i = G.1 i) ∧ u.2 = G.2
def fG (u G : Gh) : Prop := ∀ i, i ≠ 7 → u.1 i = G.1 i
theorem cntG.rf (G : Gh) : cntG G G := fun _ _ => rfl
theorem midG.rf (G : Gh) : midG G G := ⟨fun _ _ => rfl, rfl⟩
theorem fG.rf (G : Gh) : fG G G := fun _ _ => rfl
theorem cntG.up {u g G : Gh} {i : Nat} (b : ∀ j, j ≠ i → u.1 j = g.1 j) (_d : u.2 = g.2) (hi : 6 ≤ i) (h : cntG g G) : cntG u G := fun j hj => (b j (by omega)).trans (h j hj)
theorem cntG.upL {u g G : Gh} (b : ∀ j, u.1 j = g.1 j) (h : cntG g G) : cntG u G := fun j hj => (b j).trans (h j hj)
theorem midG.up {u g G : Gh} {i : Nat} (b : ∀ j, j ≠ i → u.1 j = g.1 j) (d : u.2 = g.2) (hi : 100 ≤ i) (h : midG g G) : midG u G := ⟨fun j hj => (b j (by omega)).trans (h.1 j hj), d.trans h.2⟩
theorem fG.up {u g G : Gh} {i : Nat} (b : ∀ j, j ≠ i → u.1 j = g.1 j) (_d : u.2 = g.2) (hi : i = 7) (h : fG g G) : fG u G := fun j hj => (b j (by omega)).trans (h j hj)
theorem fG.upL {u g G : Gh} (b : ∀ j, u.1 j = g.1 j) (h : fG g G) : fG u G := fun j hj => (b j).trans (h j hj)
theorem cntG.tr_cntG {u g G : Gh} (q : cntG u g) (h : cntG g G) : cntG u G := fun j hj => (q j hj).trans (h j hj)
theorem cntG.tr_fG {u g G : Gh} (q : fG u g) (h : cntG g G) : cntG u G := fun j hj => (q j (by omega)).trans (h j hj)
theorem cntG.tr_midG {u g G : Gh} (q : midG u g) (h : cntG g G) : cntG u G := fun j hj => (q.1 j (by omega)).trans (h j hj)
theorem fG.tr_fG {u g G : Gh} (q : fG u g) (h : fG g G) : fG u G := fun j hj => (q j hj).trans (h j hj)
theorem midG.tr_midG {u g G : Gh} (q : midG u g) (h : midG g G) : midG u G := ⟨fun j hj => (q.1 j hj).trans (h.1 j hj), q.2.trans h.2⟩
theorem fG.cnt {u G : Gh} (h : fG u G) : cntG u G := fun j hj => h j (by omega)
/-- one more layer on a plate of the reference -/
def putsG (u G : Gh) (k : Nat) : Prop := (∀ i, i < 200 → i ≠ k → u.1 i = G.1 i) ∧ u.2 = G.2 ∧ (u.1 k).toInt = (G.1 k).toInt + 1
theorem cntG.tr_puts {u g G : Gh} {k : Nat} (q : putsG u g k) (hk : 100 ≤ k) (h : cntG g G) : cntG u G := fun j hj => (q.1 j (by omega) (by omega)).trans (h j hj)
theorem midG.tr_puts {u g G : Gh} {k : Nat} (q : putsG u g k) (hk : 100 ≤ k) (h : midG g G) : midG u G := ⟨fun j hj => (q.1 j (by omega) (by omega)).trans (h.1 j hj), q.2.1.trans h.2⟩
def sG (u G : Gh) : Prop := ∀ i, i ≠ 9 → u.1 i = G.1 i
theorem sG.rf (G : Gh) : sG G G := fun _ _ => rfl
theorem sG.up {u g G : Gh} {i : Nat} (b : ∀ j, j ≠ i → u.1 j = g.1 j) (_d : u.2 = g.2) (hi : i = 9) (h : sG g G) : sG u G := fun j hj => (b j (by omega)).trans (h j hj)
def okF (G : Gh) (p b : Int) : Prop := 0 ≤ b ∧ b / 10 ≤ 11 ∧ b % 10 ≤ 4 ∧ (G.1 (200 + (12 * p + b / 10).toNat)).toInt ≠ 2 ∧ ((G.1 (200 + (12 * p + b / 10).toNat)).toInt ≠ 1 ∨ b % 10 < 2) ∧ b / 10 < (G.1 (100 + p.toNat)).toInt
theorem okF.mk {G : Gh} {p b : Int} {n : Nat} (hn : (12 * p + b / 10).toNat = n) (h0 : 0 ≤ b ∧ b / 10 ≤ 11 ∧ b % 10 ≤ 4) (h2 : (G.1 (200 + n)).toInt ≠ 2) (h1 : (G.1 (200 + n)).toInt ≠ 1 ∨ b % 10 < 2) (hm : b / 10 < (G.1 (100 + p.toNat)).toInt) : okF G p b := by
  subst hn
  exact ⟨h0.1, h0.2.1, h0.2.2, h2, h1, hm⟩
