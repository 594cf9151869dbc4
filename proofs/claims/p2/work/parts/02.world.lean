/-! THE WORLD: every cell of the class and of the reference has a kind (κ), each field and each place of an array keeps what its kind says; G holds the numbers that are known exactly -/
abbrev Gh : Type := (Nat → Int32) × (Nat → Int64)
def is_I (P : Int32 → Prop) (v : Value) : Prop := ∃ x : Int32, v = .int x ∧ P x
def is_L (P : Int64 → Prop) (v : Value) : Prop := ∃ x : Int64, v = .long x ∧ P x
def is_R (P : Nat → Prop) (v : Value) : Prop := ∃ a : Nat, v = .ref a ∧ P a
abbrev anyI : Value → Prop := is_I (fun _ => True)
abbrev anyL : Value → Prop := is_L (fun _ => True)
abbrev rng (lo hi : Int) (x : Int32) : Prop := lo ≤ x.toInt ∧ x.toInt ≤ hi
abbrev toK (κ : Nat → Nat) (K : Nat) : Value → Prop := is_R (fun b => κ b = K)
def nF (ci : Nat) : Nat := if ci = 0 then 4 else if ci = 1 then 2 else if ci = 2 then 13 else if ci = 3 then 2 else if ci = 4 then 3 else if ci = 5 then 4 else if ci = 6 then 4 else if ci = 7 then 2 else if ci = 8 then 7 else if ci = 9 then 7 else if ci = 10 then 11 else 31
def fs_2 (κ : Nat → Nat) (n : Int32) (k : Nat) : Value → Prop := if k = 0 then toK κ 22 else is_I (fun x => x = n ∧ rng 0 4 x)
def fs_11 (κ : Nat → Nat) (n0 n1 : Int32) (k : Nat) : Value → Prop := if k = 0 then toK κ 24 else if k = 1 then toK κ 30 else if k = 2 then toK κ 2 else if k = 3 then toK κ 5 else if k = 4 then toK κ 1 else if k = 5 then toK κ 8 else if k = 6 then toK κ 4 else if k = 7 then toK κ 3 else if k = 8 then toK κ 9 else if k = 9 then is_I (fun x => x = n0 ∧ rng 0 3 x) else is_I (fun x => x = n1 ∧ rng 0 4 x)
def fs_12 (κ : Nat → Nat) (n3 n4 n5 n6 n7 n8 n9 : Int32) (m0 : Int64) (k : Nat) : Value → Prop :=
  if k = 0 then is_I (fun x => x = n3 ∧ 0 ≤ x.toInt ∧ x.toInt ≤ 3 ∧ 5 * x.toInt ≤ n9.toInt) else if k = 1 then is_I (fun x => x = n4 ∧ rng 0 4 x) else if k = 2 then is_I (fun x => x = n5 ∧ rng 0 4 x) else if k ≤ 5 then anyI else if k ≤ 9 then toK κ 1003 else if k = 10 then toK κ 53 else if k ≤ 12 then toK κ 1003 else if k = 13 then toK κ 50 else if k = 14 then toK κ 51 else if k = 15 then toK κ 1060 else if k = 16 then toK κ 1060 else if k = 17 then toK κ 52 else if k ≤ 20 then toK κ 1004 else if k ≤ 24 then anyL else if k = 25 then is_L (fun x => x = m0) else if k = 26 then is_I (fun x => x = n7) else if k = 27 then toK κ 1030 else if k = 28 then toK κ 2030 else if k = 29 then toK κ 54 else is_I (fun x => x = n6 ∧ 0 ≤ x.toInt ∧ x.toInt ≤ 24 ∧ x.toInt ≤ n8.toInt)
def fs_0 (κ : Nat → Nat) (sz : Int32) (K k : Nat) : Value → Prop :=
  if K = 1 then (if k = 0 then toK κ 1024 else if k = 1 then toK κ 2024 else if k = 2 then toK κ 2024 else is_I (fun x => x = sz ∧ rng 0 24 x))
  else if K = 3 then (if k = 0 then toK κ 24 else if k = 1 then toK κ 7 else if k = 2 then toK κ 1006 else if k = 3 then toK κ 2006 else if k = 4 then toK κ 2006 else if k = 5 then toK κ 2003 else if k = 10 then anyI else if k = 12 then anyI else anyL)
  else if K = 4 then anyL
  else if K = 5 then (if k = 1 then is_I (fun x => x = 0 ∨ x = 1) else anyI)
  else if K = 6 then (if k = 0 then is_I (fun x => rng 0 2 x) else anyI)
  else if K = 7 then anyI
  else if K = 8 then (if k = 0 then toK κ 29 else is_I (fun x => x = sz ∧ rng 0 12 x))
  else if K = 9 then (if k = 0 then toK κ 3 else if k = 1 then toK κ 5 else if k = 2 then toK κ 2 else if k = 3 then toK κ 8 else if k = 4 then toK κ 8 else if k = 5 then toK κ 1004 else toK κ 1216)
  else (if k = 6 then toK κ 1005 else anyI)
def fsp (κ : Nat → Nat) (G : Gh) (K k a : Nat) : Value → Prop := if K = 2 then fs_2 κ (G.1 2) k else if K = 11 then fs_11 κ (G.1 0) (G.1 1) k else if K = 12 then fs_12 κ (G.1 3) (G.1 4) (G.1 5) (G.1 6) (G.1 7) (G.1 8) (G.1 9) (G.2 0) k else fs_0 κ (G.1 (1000 + a)) K k
def aN (K : Nat) : Nat := if K = 22 then 4 else if K = 24 then 3 else if K = 29 then 12 else if K = 30 then 4 else if K = 50 then 5 else if K = 51 then 60 else if K = 52 then 60 else if K = 53 then 15 else if K = 54 then 30 else if K < 2000 then K - 1000 else K - 2000
def aT (K : Nat) : Nat := if K = 22 then 5 else if K = 24 then 4 else if K = 29 then 2 else if K = 30 then 3 else if K = 54 then 1 else if K < 2000 then 0 else 1
def asp (κ : Nat → Nat) (G : Gh) (K j : Nat) : Value → Prop :=
  if K = 22 then toK κ 1003 else if K = 24 then toK κ 10 else if K = 29 then toK κ 6 else if K = 30 then toK κ 8
  else if K = 50 then is_I (fun x => x = G.1 (100 + j) ∧ rng 0 12 x ∧ ((G.1 3).toInt = 0 → x.toInt = 0))
  else if K = 51 then is_I (fun x => rng 0 2 x ∧ (x.toInt = 0 ∨ x.toInt < (G.1 3).toInt))
  else if K = 52 then is_I (fun x => x = G.1 (200 + j) ∧ rng 0 2 x)
  else if K = 53 then is_I (fun x => (j : Int) < (G.1 9).toInt → 1 ≤ x.toInt)
  else if K = 54 then is_L (fun x => (j : Int) < (G.1 8).toInt → x.toInt ≠ 0)
  else if K < 2000 then anyI else anyL
def sing (K : Nat) : Prop := K = 2 ∨ K = 11 ∨ K = 12 ∨ K = 50 ∨ K = 51 ∨ K = 52 ∨ K = 53 ∨ K = 54
def TW (D : va_G) (cy : Nat → ClassId) (κ : Nat → Nat) (G : Gh) (H : Heap) : Prop :=
  (∀ a ci, κ a = ci + 1 → ci < 12 → ∃ V : Nat → Value, t_OB a (D.1 ci) (nF ci) (D.2 ci) H V ∧ ∀ k, k < nF ci → fsp κ G (ci + 1) k a (V k)) ∧
  (∀ a, 13 ≤ κ a → ∃ f : Nat → Value, H[a]? = some (arrV (cy (aT (κ a))) (aN (κ a)) f) ∧ ∀ j, j < aN (κ a) → asp κ G (κ a) j (f j)) ∧
  (∀ a b, κ a = κ b → sing (κ a) → a = b)
def tysOf (cy : Nat → ClassId) : List (ClassId × FieldType) := [(cy 0, .int), (cy 1, .long), (cy 2, .object RX5), (cy 3, .object RX7), (cy 4, .object RX9), (cy 5, .array .int)]
def KK (D : va_G) (cy : Nat → ClassId) (U : State) : Prop := va_K D vwCl (tysOf cy) U
def WW (D : va_G) (cy : Nat → ClassId) (κ : Nat → Nat) (G : Gh) (U : State) : Prop := TW D cy κ G U.heap ∧ KK D cy U
def AA (κ : Nat → Nat) : Nat → Prop := fun q => κ q ≠ 0
theorem WW.blind {D : va_G} {cy : Nat → ClassId} {κ : Nat → Nat} {G : Gh} {av : List Value} : FrameBlind (va_Pc av (fun U => WW D cy κ G U)) := by
  intro a U g mk q
  obtain ⟨q0, q1, q2⟩ := q
  exact ⟨q0, q1, va_K.moved (u := U) (U := U.calling g mk a) (Vm.Alike.refl U.vm) q2⟩
theorem TW.recv {D : va_G} {cy : Nat → ClassId} {κ : Nat → Nat} {G : Gh} {H : Heap} {s : State} (hK : KK D cy s) (hT : TW D cy κ G H) {b ci : Nat} {q : vw_C} (hk : κ b = ci + 1) (hci : ci < 12) (hc : vwCl[ci]? = some q) : ∃ cell : Cell, H[b]? = some cell ∧ cell.vm.isStatics = false ∧ s.vm.findClass q.1 = some cell.cls := by
  obtain ⟨V, ⟨cell, h1, h2, h3, -⟩, -⟩ := hT.1 b ci hk hci
  exact ⟨cell, h1, by rw [h3]; rfl, by rw [h2]; exact (hK.1 ci q hc).2.1⟩
/-- an object's cell is written: the world behind it -/
theorem TW.put {D : va_G} {cy : Nat → ClassId} {κ : Nat → Nat} {G G' : Gh} {H H' : Heap} (hT : TW D cy κ G H) {a ci : Nat} (hk : κ a = ci + 1) {V : Nat → Value} (ho : t_OB a (D.1 ci) (nF ci) (D.2 ci) H' V) (hV : ∀ k, k < nF ci → fsp κ G' (ci + 1) k a (V k)) (hq : ∀ q : Nat, q ≠ a → H'[q]? = H[q]?)
    (hf : ∀ b c, κ b = c + 1 → c < 12 → b ≠ a → ∀ k, k < nF c → ∀ w, fsp κ G (c + 1) k b w → fsp κ G' (c + 1) k b w) (ha : ∀ K j w, 13 ≤ K → j < aN K → asp κ G K j w → asp κ G' K j w) (hci : ci < 12) : TW D cy κ G' H' := by
  refine ⟨fun b c hb hc => ?_, fun b hb => ?_, hT.2.2⟩
  · by_cases e : b = a
    · subst e
      have e2 : c = ci := by omega
      subst e2
      exact ⟨V, ho, hV⟩
    · obtain ⟨V0, h1, h2⟩ := hT.1 b c hb hc
      exact ⟨V0, h1.kept (hq b e), fun k hk' => hf b c hb hc e k hk' _ (h2 k hk')⟩
  · obtain ⟨f, h1, h2⟩ := hT.2.1 b hb
    have e : b ≠ a := fun e => by subst e; omega
    exact ⟨f, by rw [hq b e]; exact h1, fun j hj => ha _ j _ hb hj (h2 j hj)⟩
/-- an array's cell is written: the world behind it -/
theorem TW.ast {D : va_G} {cy : Nat → ClassId} {κ : Nat → Nat} {G G' : Gh} {H H' : Heap} (hT : TW D cy κ G H) {a : Nat} (hk : 13 ≤ κ a) {f : Nat → Value} (ho : H'[a]? = some (arrV (cy (aT (κ a))) (aN (κ a)) f)) (hV : ∀ j, j < aN (κ a) → asp κ G' (κ a) j (f j)) (hq : ∀ q : Nat, q ≠ a → H'[q]? = H[q]?)
    (hf : ∀ K k b w, fsp κ G K k b w → fsp κ G' K k b w) (ha : ∀ b, b ≠ a → 13 ≤ κ b → ∀ j w, j < aN (κ b) → asp κ G (κ b) j w → asp κ G' (κ b) j w) : TW D cy κ G' H' := by
  refine ⟨fun b c hb hc => ?_, fun b hb => ?_, hT.2.2⟩
  · obtain ⟨V0, h1, h2⟩ := hT.1 b c hb hc
    have e : b ≠ a := fun e => by subst e; omega
    exact ⟨V0, h1.kept (hq b e), fun k hk' => hf _ k _ _ (h2 k hk')⟩
  · by_cases e : b = a
    · subst e
      exact ⟨f, ho, hV⟩
    · obtain ⟨f0, h1, h2⟩ := hT.2.1 b hb
      exact ⟨f0, by rw [hq b e]; exact h1, fun j hj => ha b e hb j _ hj (h2 j hj)⟩
theorem i32b (x : Int32) : -2147483648 ≤ x.toInt ∧ x.toInt ≤ 2147483647 := ⟨Int32.le_toInt x, by have := Int32.toInt_lt x; omega⟩
theorem ti_add {x y : Int32} (h : -2147483648 ≤ x.toInt + y.toInt ∧ x.toInt + y.toInt ≤ 2147483647) : (x + y).toInt = x.toInt + y.toInt := by
  rw [Int32.toInt_add]; exact Int.bmod_eq_of_le (by omega) (by omega)
theorem ti_sub {x y : Int32} (h : -2147483648 ≤ x.toInt - y.toInt ∧ x.toInt - y.toInt ≤ 2147483647) : (x - y).toInt = x.toInt - y.toInt := by
  rw [Int32.toInt_sub]; exact Int.bmod_eq_of_le (by omega) (by omega)
theorem ti_mul {x y : Int32} (h : -2147483648 ≤ x.toInt * y.toInt ∧ x.toInt * y.toInt ≤ 2147483647) : (x * y).toInt = x.toInt * y.toInt := by
  rw [Int32.toInt_mul]; exact Int.bmod_eq_of_le (by omega) (by omega)
theorem clampI {i : Int32} (h : 0 ≤ i.toInt) : (i.toNatClampNeg : Int) = i.toInt := Int.toNat_of_nonneg h
theorem vin {i : Int32} {n : Nat} (h : 0 ≤ i.toInt ∧ i.toInt < (n : Int)) : vp_in i n := by
  intro q
  rcases q with q | q
  · rw [Int32.lt_iff_toInt_lt] at q
    have : (0 : Int32).toInt = 0 := rfl
    omega
  · have e := clampI h.1
    omega
theorem eqI {x y : Int32} (h : x.toInt = y.toInt) : x = y := Int32.toInt_inj.mp h
/-- what is known exactly of counts, not of a plate's layers -/
def lowG (u G : Gh) : Prop := (∀ i, i < 1000 → u.1 i = G.1 i) ∧ u.2 = G.2
theorem lowG.rf (G : Gh) : lowG G G := ⟨fun _ _ => rfl, rfl⟩
theorem lowG.tr {u v w : Gh} (h : lowG u v) (h2 : lowG v w) : lowG u w := ⟨fun i hi => (h.1 i hi).trans (h2.1 i hi), h.2.trans h2.2⟩
def szG (G : Gh) (a : Nat) (x : Int32) : Gh := (fun i => if i = 1000 + a then x else G.1 i, G.2)
theorem lowG.sz (G : Gh) (a : Nat) (x : Int32) : lowG (szG G a x) G := ⟨fun i hi => if_neg (by omega), rfl⟩
