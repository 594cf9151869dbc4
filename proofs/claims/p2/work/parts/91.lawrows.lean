/-! THE LAW: both sides have the same counts -/
def EQ (g : Gh) : Prop := (g.1 0).toInt = (g.1 3).toInt ∧ (g.1 1).toInt = (g.1 4).toInt ∧ (g.1 2).toInt = (g.1 5).toInt
theorem EQ.cnt {u g : Gh} (h : cntG u g) (e : EQ g) : EQ u := by
  unfold EQ at e ⊢
  rw [h 0 (by omega), h 1 (by omega), h 2 (by omega), h 3 (by omega), h 4 (by omega), h 5 (by omega)]
  exact e
theorem lowG.cnt {u g : Gh} (h : lowG u g) : cntG u g := fun i hi => h.1 i (by omega)
theorem cntG.of {u g : Gh} (h : u = g) : cntG u g := by rw [h]; exact cntG.rf g
def gp_X10_stuff (G u : Gh) (r : Int32) (p1 p2 p3 p4 : Int32) : Prop := (u = G ∧ r.toInt = -2 ∧ (p1.toInt < 1 ∨ 200 < p1.toInt ∨ p2.toInt < 1 ∨ 200 < p2.toInt ∨ p3.toInt < 0 ∨ 200 < p3.toInt ∨ p4.toInt < 1 ∨ 200 < p4.toInt ∨ (p1 * p2).toInt ≤ (p3 * p3).toInt)) ∨ (u = G ∧ r.toInt = -4 ∧ (1 ≤ p1.toInt ∧ p1.toInt ≤ 200 ∧ 1 ≤ p2.toInt ∧ p2.toInt ≤ 200 ∧ 0 ≤ p3.toInt ∧ p3.toInt ≤ 200 ∧ 1 ≤ p4.toInt ∧ p4.toInt ≤ 200 ∧ (p3 * p3).toInt < (p1 * p2).toInt) ∧ 3 ≤ (G.1 0).toInt) ∨ ((1 ≤ p1.toInt ∧ p1.toInt ≤ 200 ∧ 1 ≤ p2.toInt ∧ p2.toInt ≤ 200 ∧ 0 ≤ p3.toInt ∧ p3.toInt ≤ 200 ∧ 1 ≤ p4.toInt ∧ p4.toInt ≤ 200 ∧ (p3 * p3).toInt < (p1 * p2).toInt) ∧ (G.1 0).toInt < 3 ∧ r.toInt = (G.1 0).toInt ∧ ∃ x : Int32, x.toInt = (G.1 0).toInt + 1 ∧ u = cG G 0 x)
def gp_X11_stuff (G u : Gh) (r : Int32) (p1 p2 p3 p4 : Int32) : Prop := (u = G ∧ r.toInt = -2 ∧ (p1.toInt < 1 ∨ 200 < p1.toInt ∨ p2.toInt < 1 ∨ 200 < p2.toInt ∨ p3.toInt < 0 ∨ 200 < p3.toInt ∨ p4.toInt < 1 ∨ 200 < p4.toInt ∨ (p1 * p2).toInt ≤ (p3 * p3).toInt)) ∨ (u = G ∧ r.toInt = -4 ∧ (1 ≤ p1.toInt ∧ p1.toInt ≤ 200 ∧ 1 ≤ p2.toInt ∧ p2.toInt ≤ 200 ∧ 0 ≤ p3.toInt ∧ p3.toInt ≤ 200 ∧ 1 ≤ p4.toInt ∧ p4.toInt ≤ 200 ∧ (p3 * p3).toInt < (p1 * p2).toInt) ∧ 3 ≤ (G.1 3).toInt) ∨ ((1 ≤ p1.toInt ∧ p1.toInt ≤ 200 ∧ 1 ≤ p2.toInt ∧ p2.toInt ≤ 200 ∧ 0 ≤ p3.toInt ∧ p3.toInt ≤ 200 ∧ 1 ≤ p4.toInt ∧ p4.toInt ≤ 200 ∧ (p3 * p3).toInt < (p1 * p2).toInt) ∧ (G.1 3).toInt < 3 ∧ r.toInt = (G.1 3).toInt ∧ (u.1 3).toInt = (G.1 3).toInt + 1 ∧ ∀ i, i < 6 → i ≠ 3 → u.1 i = G.1 i)
def gp_X10_load (G u : Gh) (r : Int32) (p1 p2 p3 : Int32) : Prop := (u = G ∧ r.toInt = -2 ∧ (p1.toInt < -100 ∨ 100 < p1.toInt ∨ p2.toInt < -100 ∨ 100 < p2.toInt ∨ p3.toInt < -100 ∨ 100 < p3.toInt)) ∨ (u = G ∧ r.toInt = -4 ∧ (-100 ≤ p1.toInt ∧ p1.toInt ≤ 100 ∧ -100 ≤ p2.toInt ∧ p2.toInt ≤ 100 ∧ -100 ≤ p3.toInt ∧ p3.toInt ≤ 100) ∧ 4 ≤ (G.1 2).toInt) ∨ ((-100 ≤ p1.toInt ∧ p1.toInt ≤ 100 ∧ -100 ≤ p2.toInt ∧ p2.toInt ≤ 100 ∧ -100 ≤ p3.toInt ∧ p3.toInt ≤ 100) ∧ (G.1 2).toInt < 4 ∧ r.toInt = (G.1 2).toInt ∧ ∃ x : Int32, x.toInt = (G.1 2).toInt + 1 ∧ u = cG G 2 x)
def gp_X11_load (G u : Gh) (r : Int32) (p1 p2 p3 : Int32) : Prop := (u = G ∧ r.toInt = -2 ∧ (p1.toInt < -100 ∨ 100 < p1.toInt ∨ p2.toInt < -100 ∨ 100 < p2.toInt ∨ p3.toInt < -100 ∨ 100 < p3.toInt)) ∨ (u = G ∧ r.toInt = -4 ∧ (-100 ≤ p1.toInt ∧ p1.toInt ≤ 100 ∧ -100 ≤ p2.toInt ∧ p2.toInt ≤ 100 ∧ -100 ≤ p3.toInt ∧ p3.toInt ≤ 100) ∧ 4 ≤ (G.1 5).toInt) ∨ ((-100 ≤ p1.toInt ∧ p1.toInt ≤ 100 ∧ -100 ≤ p2.toInt ∧ p2.toInt ≤ 100 ∧ -100 ≤ p3.toInt ∧ p3.toInt ≤ 100) ∧ (G.1 5).toInt < 4 ∧ r.toInt = (G.1 5).toInt ∧ (u.1 5).toInt = (G.1 5).toInt + 1 ∧ ∀ i, i < 6 → i ≠ 5 → u.1 i = G.1 i)
def gp_X10_plate (G u : Gh) (r : Int32)  : Prop := (u = G ∧ r.toInt = -4 ∧ 4 ≤ (G.1 1).toInt) ∨ ((G.1 1).toInt < 4 ∧ r.toInt = (G.1 1).toInt ∧ ∃ x : Int32, x.toInt = (G.1 1).toInt + 1 ∧ u = cG G 1 x)
def gp_X11_plate (G u : Gh) (r : Int32)  : Prop := (u = G ∧ r.toInt = -4 ∧ 4 ≤ (G.1 4).toInt) ∨ ((G.1 4).toInt < 4 ∧ r.toInt = (G.1 4).toInt ∧ (u.1 4).toInt = (G.1 4).toInt + 1 ∧ ∀ i, i < 6 → i ≠ 4 → u.1 i = G.1 i)
def gp_X10_unload (G u : Gh) (r : Int32)  : Prop := r.toInt = (G.1 2).toInt ∧ ∃ x : Int32, x.toInt = 0 ∧ u = cG G 2 x
def gp_X11_unload (G u : Gh) (r : Int32)  : Prop := r.toInt = (G.1 5).toInt ∧ (u.1 5).toInt = 0 ∧ ∀ i, i < 6 → i ≠ 5 → u.1 i = G.1 i
theorem eq_stuff {g u v : Gh} {r t : Int32} {p1 p2 p3 p4 : Int32} (h1 : gp_X10_stuff g u r p1 p2 p3 p4) (h2 : gp_X11_stuff u v t p1 p2 p3 p4) (e : EQ g) : EQ v ∧ r.toInt = t.toInt := by
  unfold EQ at e ⊢
  have k1 : ∀ k, k ≠ 0 → u.1 k = g.1 k := by
    intro k hk
    rcases h1 with h | h | h
    · rw [h.1]
    · rw [h.1]
    · obtain ⟨-, -, -, x, -, h⟩ := h
      rw [h]; exact if_neg hk
  have k2 : ∀ k, k < 6 → k ≠ 3 → v.1 k = u.1 k := by
    intro k hk6 hk
    rcases h2 with h | h | h
    · rw [h.1]
    · rw [h.1]
    · exact h.2.2.2.2 k hk6 hk
  have b0 := congrArg Int32.toInt (k2 0 (by omega) (by omega))
  have a1 := congrArg Int32.toInt (k1 1 (by omega))
  have b1 := congrArg Int32.toInt (k2 1 (by omega) (by omega))
  have a2 := congrArg Int32.toInt (k1 2 (by omega))
  have b2 := congrArg Int32.toInt (k2 2 (by omega) (by omega))
  have a3 := congrArg Int32.toInt (k1 3 (by omega))
  have a4 := congrArg Int32.toInt (k1 4 (by omega))
  have b4 := congrArg Int32.toInt (k2 4 (by omega) (by omega))
  have a5 := congrArg Int32.toInt (k1 5 (by omega))
  have b5 := congrArg Int32.toInt (k2 5 (by omega) (by omega))
  have m1 : (u.1 0).toInt = (g.1 0).toInt ∨ (u.1 0).toInt = (g.1 0).toInt + 1 := by
    rcases h1 with h | h | h
    · exact Or.inl (by rw [h.1])
    · exact Or.inl (by rw [h.1])
    · obtain ⟨-, -, -, x, hx, h⟩ := h
      exact Or.inr (by rw [h, cG_at]; exact hx)
  rcases h1 with h | h | h
  · have m2 := congrArg (fun z : Gh => (z.1 0).toInt) h.1
    try dsimp only at m2
    rcases h2 with q | q | q
    · have m3 := congrArg (fun z : Gh => (z.1 3).toInt) q.1
      try dsimp only at m3
      have := h.2.1; have := q.2.1; omega
    · exfalso; have := h.2.2; have := q.2.2.1; omega
    · exfalso; have := h.2.2; have := q.1; omega
  · have m2 := congrArg (fun z : Gh => (z.1 0).toInt) h.1
    try dsimp only at m2
    rcases h2 with q | q | q
    · exfalso; have := h.2.2.1; have := q.2.2; omega
    · have m3 := congrArg (fun z : Gh => (z.1 3).toInt) q.1
      try dsimp only at m3
      have := h.2.1; have := q.2.1; omega
    · exfalso; have := h.2.2.2; have := q.2.1; omega
  · obtain ⟨h1, h2', h3, x, hx, h⟩ := h
    have m2 : (u.1 0).toInt = x.toInt := by rw [h, cG_at]
    rcases h2 with q | q | q
    · exfalso; have := q.2.2; omega
    · exfalso; have := q.2.2.2; omega
    · have := q.2.2.1; have := q.2.2.2.1; omega
theorem eq_load {g u v : Gh} {r t : Int32} {p1 p2 p3 : Int32} (h1 : gp_X10_load g u r p1 p2 p3) (h2 : gp_X11_load u v t p1 p2 p3) (e : EQ g) : EQ v ∧ r.toInt = t.toInt := by
  unfold EQ at e ⊢
  have k1 : ∀ k, k ≠ 2 → u.1 k = g.1 k := by
    intro k hk
    rcases h1 with h | h | h
    · rw [h.1]
    · rw [h.1]
    · obtain ⟨-, -, -, x, -, h⟩ := h
      rw [h]; exact if_neg hk
  have k2 : ∀ k, k < 6 → k ≠ 5 → v.1 k = u.1 k := by
    intro k hk6 hk
    rcases h2 with h | h | h
    · rw [h.1]
    · rw [h.1]
    · exact h.2.2.2.2 k hk6 hk
  have a0 := congrArg Int32.toInt (k1 0 (by omega))
  have b0 := congrArg Int32.toInt (k2 0 (by omega) (by omega))
  have a1 := congrArg Int32.toInt (k1 1 (by omega))
  have b1 := congrArg Int32.toInt (k2 1 (by omega) (by omega))
  have b2 := congrArg Int32.toInt (k2 2 (by omega) (by omega))
  have a3 := congrArg Int32.toInt (k1 3 (by omega))
  have b3 := congrArg Int32.toInt (k2 3 (by omega) (by omega))
  have a4 := congrArg Int32.toInt (k1 4 (by omega))
  have b4 := congrArg Int32.toInt (k2 4 (by omega) (by omega))
  have a5 := congrArg Int32.toInt (k1 5 (by omega))
  have m1 : (u.1 2).toInt = (g.1 2).toInt ∨ (u.1 2).toInt = (g.1 2).toInt + 1 := by
    rcases h1 with h | h | h
    · exact Or.inl (by rw [h.1])
    · exact Or.inl (by rw [h.1])
    · obtain ⟨-, -, -, x, hx, h⟩ := h
      exact Or.inr (by rw [h, cG_at]; exact hx)
  rcases h1 with h | h | h
  · have m2 := congrArg (fun z : Gh => (z.1 2).toInt) h.1
    try dsimp only at m2
    rcases h2 with q | q | q
    · have m3 := congrArg (fun z : Gh => (z.1 5).toInt) q.1
      try dsimp only at m3
      have := h.2.1; have := q.2.1; omega
    · exfalso; have := h.2.2; have := q.2.2.1; omega
    · exfalso; have := h.2.2; have := q.1; omega
  · have m2 := congrArg (fun z : Gh => (z.1 2).toInt) h.1
    try dsimp only at m2
    rcases h2 with q | q | q
    · exfalso; have := h.2.2.1; have := q.2.2; omega
    · have m3 := congrArg (fun z : Gh => (z.1 5).toInt) q.1
      try dsimp only at m3
      have := h.2.1; have := q.2.1; omega
    · exfalso; have := h.2.2.2; have := q.2.1; omega
  · obtain ⟨h1, h2', h3, x, hx, h⟩ := h
    have m2 : (u.1 2).toInt = x.toInt := by rw [h, cG_at]
    rcases h2 with q | q | q
    · exfalso; have := q.2.2; omega
    · exfalso; have := q.2.2.2; omega
    · have := q.2.2.1; have := q.2.2.2.1; omega
theorem eq_plate {g u v : Gh} {r t : Int32} {z0 : Nat} (h1 : gp_X10_plate g u r) (h2 : gp_X11_plate u v t) (e : EQ g) : EQ v ∧ r.toInt = t.toInt := by
  unfold EQ at e ⊢
  have k1 : ∀ k, k ≠ 1 → u.1 k = g.1 k := by
    intro k hk
    rcases h1 with h | h
    · rw [h.1]
    · obtain ⟨-, -, x, -, h⟩ := h
      rw [h]; exact if_neg hk
  have k2 : ∀ k, k < 6 → k ≠ 4 → v.1 k = u.1 k := by
    intro k hk6 hk
    rcases h2 with h | h
    · rw [h.1]
    · exact h.2.2.2 k hk6 hk
  have a0 := congrArg Int32.toInt (k1 0 (by omega))
  have b0 := congrArg Int32.toInt (k2 0 (by omega) (by omega))
  have b1 := congrArg Int32.toInt (k2 1 (by omega) (by omega))
  have a2 := congrArg Int32.toInt (k1 2 (by omega))
  have b2 := congrArg Int32.toInt (k2 2 (by omega) (by omega))
  have a3 := congrArg Int32.toInt (k1 3 (by omega))
  have b3 := congrArg Int32.toInt (k2 3 (by omega) (by omega))
  have a4 := congrArg Int32.toInt (k1 4 (by omega))
  have a5 := congrArg Int32.toInt (k1 5 (by omega))
  have b5 := congrArg Int32.toInt (k2 5 (by omega) (by omega))
  rcases h1 with h | h
  · have m2 := congrArg (fun z : Gh => (z.1 1).toInt) h.1
    try dsimp only at m2
    rcases h2 with q | q
    · have m3 := congrArg (fun z : Gh => (z.1 4).toInt) q.1
      try dsimp only at m3
      have := h.2.1; have := q.2.1; omega
    · exfalso; have := h.2.2; have := q.1; omega
  · obtain ⟨h2', h3, x, hx, h⟩ := h
    have m2 : (u.1 1).toInt = x.toInt := by rw [h, cG_at]
    rcases h2 with q | q
    · exfalso; have := q.2.2; omega
    · have := q.2.1; have := q.2.2.1; omega
theorem eq_unload {g u v : Gh} {r t : Int32} {z0 : Nat} (h1 : gp_X10_unload g u r) (h2 : gp_X11_unload u v t) (e : EQ g) : EQ v ∧ r.toInt = t.toInt := by
  unfold EQ at e ⊢
  have k1 : ∀ k, k ≠ 2 → u.1 k = g.1 k := by
    intro k hk
    obtain ⟨-, x, -, h⟩ := h1
    rw [h]; exact if_neg hk
  have k2 : ∀ k, k < 6 → k ≠ 5 → v.1 k = u.1 k := by
    intro k hk6 hk
    exact h2.2.2 k hk6 hk
  have a0 := congrArg Int32.toInt (k1 0 (by omega))
  have b0 := congrArg Int32.toInt (k2 0 (by omega) (by omega))
  have a1 := congrArg Int32.toInt (k1 1 (by omega))
  have b1 := congrArg Int32.toInt (k2 1 (by omega) (by omega))
  have b2 := congrArg Int32.toInt (k2 2 (by omega) (by omega))
  have a3 := congrArg Int32.toInt (k1 3 (by omega))
  have b3 := congrArg Int32.toInt (k2 3 (by omega) (by omega))
  have a4 := congrArg Int32.toInt (k1 4 (by omega))
  have b4 := congrArg Int32.toInt (k2 4 (by omega) (by omega))
  have a5 := congrArg Int32.toInt (k1 5 (by omega))
  obtain ⟨h3, x, hx, h⟩ := h1
  have m2 : (u.1 2).toInt = x.toInt := by rw [h, cG_at]
  have := h2.1; have := h2.2.1; omega
section LWD
variable {p : Program} {l : Launch} {e : Env} {R : Room} {s : State} {m : MethodId} {args : Array Value} {below : List Frame} {meth : Method} {c : Code} {H : Heap} {locs : List Loc} {cells slots : Nat} {Q : State → Prop}
variable {cc : ByteArray} {pc : Nat} {ls : Array Slot} {rest st As : List Value} {D : va_G} {cy : Nat → ClassId} {κ : Nat → Nat} {G : Gh} {b nL n index maxL : Nat} {H0 : Heap} {Ts ws : List Cond} {own : String} {y : MethodName} {rm : Room} {bytes : ByteArray} {ret : Option FieldType}
theorem lw_Vi {post : Int32 → Gh → Prop} {q : vw_C} (S : CallFix p m c cc nL s args Ts own) (hM : Met l y ws rm (va_Pc (.ref b :: As) (fun U => WW D cy κ G U)) (va_Qi post (fun u t => WW D cy κ u t) (AA κ)) 0 0 (AA κ)) (cw : CallW R s args own q.1 index y bytes maxL ret ws rm 0 0 n) (hK : KK D cy s) (hT : TW D cy κ G H) {A0 : Nat → Prop} (hS : va_S A0 H0 H locs) (hκ : ∀ q, κ q ≠ 0 → A0 q) {ci : Nat} (hk : κ b = ci + 1) (hci : ci < 12) (hc : vwCl[ci]? = some q)
    (hn : As.length = n) (hsize : ls.size = nL) (hst : st = As.reverse ++ .ref b :: rest) (hW : (rest.map fun v => v.category).sum ≤ 8) (hdg : decode cc pc = .ok (.invokevirtual index, 3)) (hf : cells ≤ R.cells ∧ slots ≤ R.slots)
    (kk : ∀ (r : Int32) (u : Gh) (H1 : Heap) (locs1 : List Loc), post r u → TW D cy κ u H1 → va_S A0 H0 H1 locs1 → W p l e R s m args below meth c H1 locs1 cells slots Q (F0 m (pc + 3) ls (.int r :: rest))) : W p l e R s m args below meth c H locs cells slots Q (F0 m pc ls st) :=
  va_calli (va_runV (As := As) (rest := rest) S hM cw (tw_preV hK hT hk hci hc) rfl hn hsize hst (lv_room hW) hdg hf) hS (fun q _ h => hκ q h) (fun q h => hκ q h) (fun r u t H1 locs1 ht _ hp hB _ _ hS1 => kk r u H1 locs1 hp (by rw [← ht]; exact hB.1) hS1)
theorem lw_Vl {post : Int64 → Gh → Prop} {q : vw_C} (S : CallFix p m c cc nL s args Ts own) (hM : Met l y ws rm (va_Pc (.ref b :: As) (fun U => WW D cy κ G U)) (va_Ql post (fun u t => WW D cy κ u t) (AA κ)) 0 0 (AA κ)) (cw : CallW R s args own q.1 index y bytes maxL ret ws rm 0 0 n) (hK : KK D cy s) (hT : TW D cy κ G H) {A0 : Nat → Prop} (hS : va_S A0 H0 H locs) (hκ : ∀ q, κ q ≠ 0 → A0 q) {ci : Nat} (hk : κ b = ci + 1) (hci : ci < 12) (hc : vwCl[ci]? = some q)
    (hn : As.length = n) (hsize : ls.size = nL) (hst : st = As.reverse ++ .ref b :: rest) (hW : (rest.map fun v => v.category).sum ≤ 8) (hdg : decode cc pc = .ok (.invokevirtual index, 3)) (hf : cells ≤ R.cells ∧ slots ≤ R.slots)
    (kk : ∀ (r : Int64) (u : Gh) (H1 : Heap) (locs1 : List Loc), post r u → TW D cy κ u H1 → va_S A0 H0 H1 locs1 → W p l e R s m args below meth c H1 locs1 cells slots Q (F0 m (pc + 3) ls (.long r :: rest))) : W p l e R s m args below meth c H locs cells slots Q (F0 m pc ls st) :=
  va_calll (va_runV (As := As) (rest := rest) S hM cw (tw_preV hK hT hk hci hc) rfl hn hsize hst (lv_room hW) hdg hf) hS (fun q _ h => hκ q h) (fun q h => hκ q h) (fun r u t H1 locs1 ht _ hp hB _ _ hS1 => kk r u H1 locs1 hp (by rw [← ht]; exact hB.1) hS1)
theorem lw_Vv {post : Gh → Prop} {q : vw_C} (S : CallFix p m c cc nL s args Ts own) (hM : Met l y ws rm (va_Pc (.ref b :: As) (fun U => WW D cy κ G U)) (va_Qv post (fun u t => WW D cy κ u t) (AA κ)) 0 0 (AA κ)) (cw : CallW R s args own q.1 index y bytes maxL ret ws rm 0 0 n) (hK : KK D cy s) (hT : TW D cy κ G H) {A0 : Nat → Prop} (hS : va_S A0 H0 H locs) (hκ : ∀ q, κ q ≠ 0 → A0 q) {ci : Nat} (hk : κ b = ci + 1) (hci : ci < 12) (hc : vwCl[ci]? = some q)
    (hn : As.length = n) (hsize : ls.size = nL) (hst : st = As.reverse ++ .ref b :: rest) (hW : (rest.map fun v => v.category).sum ≤ 8) (hdg : decode cc pc = .ok (.invokevirtual index, 3)) (hf : cells ≤ R.cells ∧ slots ≤ R.slots)
    (kk : ∀ (u : Gh) (H1 : Heap) (locs1 : List Loc), post u → TW D cy κ u H1 → va_S A0 H0 H1 locs1 → W p l e R s m args below meth c H1 locs1 cells slots Q (F0 m (pc + 3) ls rest)) : W p l e R s m args below meth c H locs cells slots Q (F0 m pc ls st) :=
  va_callv (va_runV (As := As) (rest := rest) S hM cw (tw_preV hK hT hk hci hc) rfl hn hsize hst (lv_room hW) hdg hf) hS (fun q _ h => hκ q h) (fun q h => hκ q h) (fun u t H1 locs1 ht _ hp hB _ _ hS1 => kk u H1 locs1 hp (by rw [← ht]; exact hB.1) hS1)
end LWD
