/-! longs: remainders, divisors -/
theorem rem64 {x y z : Int64} (e : z = x % y) (hy : y.toInt ≠ 0) : z.toInt.natAbs < y.toInt.natAbs := by
  rw [e, Int64.toInt_mod]
  have h := Int.tmod_lt_of_pos x.toInt (b := (y.toInt.natAbs : Int)) (by omega)
  have h2 := Int.lt_tmod_of_pos x.toInt (b := (y.toInt.natAbs : Int)) (by omega)
  have e2 : x.toInt.tmod (y.toInt.natAbs : Int) = x.toInt.tmod y.toInt := by
    rcases Int.natAbs_eq y.toInt with q | q
    · rw [← q]
    · have : ((y.toInt.natAbs : Nat) : Int) = - y.toInt := by omega
      rw [this, Int.tmod_neg]
  rw [e2] at h h2
  omega
theorem gcd_step {a b z : Int64} {P : Int → Prop} (e : z = a % b) (h : ∀ d : Int, d ∣ a.toInt → d ∣ b.toInt → P d) : ∀ d : Int, d ∣ b.toInt → d ∣ z.toInt → P d := by
  intro d hb hz
  refine h d ?_ hb
  rw [e, Int64.toInt_mod] at hz
  have h1 := Int.tmod_add_mul_tdiv a.toInt b.toInt
  rw [← h1]
  exact Int.dvd_add hz (Int.dvd_trans hb (Int.dvd_mul_right _ _))
theorem neg64dvd {x z : Int64} (e : z = -x) (d : Int) (h : d ∣ z.toInt) : d ∣ x.toInt := by
  by_cases hm : x.toInt = -9223372036854775808
  · have hx : x = Int64.minValue := eq64 (by rw [hm]; rfl)
    have : z = x := by rw [e, hx]; rfl
    rw [← this]; exact h
  · have hb1 := Int64.le_toInt x
    have hb2 := Int64.toInt_lt x
    have e2 : z.toInt = - x.toInt := by
      rw [e, Int64.toInt_neg]
      exact Int.bmod_eq_of_le (by omega) (by omega)
    rw [e2] at h
    exact (Int.dvd_neg.mp h)
theorem div64_ne {x g z : Int64} (e : z = x / g) (hd : g.toInt ∣ x.toInt) (hx : x.toInt ≠ 0) : z.toInt ≠ 0 := by
  intro h
  obtain ⟨k, hk⟩ := hd
  have hg : g.toInt ≠ 0 := fun q => hx (by rw [hk, q]; simp)
  have hb1 := Int64.le_toInt x
  have hb2 := Int64.toInt_lt x
  rw [e, Int64.toInt_div] at h
  have e3 : x.toInt.tdiv g.toInt = k := by rw [hk]; exact Int.mul_tdiv_cancel_left k hg
  rw [e3] at h
  have hk0 : k ≠ 0 := fun q => hx (by rw [hk, q]; simp)
  have hkb : k.natAbs ≤ x.toInt.natAbs := by
    rw [hk, Int.natAbs_mul]
    exact Nat.le_mul_of_pos_left _ (by omega)
  by_cases hk1 : k = 9223372036854775808
  · rw [hk1] at h; exact absurd h (by decide)
  · rw [Int.bmod_eq_of_le (by omega) (by omega)] at h
    exact hk0 h
theorem mul0 {x y z : Int64} (e : z = x * y) : (x.toInt ≠ 0 ∨ z.toInt = 0) ∧ (y.toInt ≠ 0 ∨ z.toInt = 0) := by
  constructor
  · by_cases h : x.toInt = 0
    · right; rw [e, Int64.toInt_mul, h]; simp
    · exact Or.inl h
  · by_cases h : y.toInt = 0
    · right; rw [e, Int64.toInt_mul, h]; simp
    · exact Or.inl h
theorem add0 {x y z : Int64} (e : z = x + y) : x.toInt ≠ 0 ∨ y.toInt ≠ 0 ∨ z.toInt = 0 := by
  by_cases h : x.toInt = 0
  · by_cases h2 : y.toInt = 0
    · right; right; rw [e, Int64.toInt_add, h, h2]; simp
    · exact Or.inr (Or.inl h2)
  · exact Or.inl h
theorem mulpm {x y z : Int64} (e : z = x * y) (h : y.toInt = 1 ∨ y.toInt = -1) : z.toInt ≠ 0 ∨ x.toInt = 0 := by
  rcases h with h | h
  · have : y = 1 := eq64 (by rw [h]; rfl)
    rw [e, this, Int64.mul_one]; omega
  · have : y = -1 := eq64 (by rw [h]; rfl)
    have e2 : z = -x := by rw [e, this, Int64.mul_neg, Int64.mul_one]
    have := neg64 x
    rw [e2]; omega
theorem lrem_eq (x y : Int64) : x - x / y * y = x % y := by
  apply eq64
  rw [Int64.toInt_sub, Int64.toInt_mul, Int64.toInt_div, Int64.toInt_mod, Int.bmod_mul_bmod, Int.sub_bmod_bmod]
  have h1 : x.toInt - x.toInt.tdiv y.toInt * y.toInt = x.toInt.tmod y.toInt := by
    rw [Int.tmod_def, Int.mul_comm]
  rw [h1]
  have hb1 := Int64.le_toInt x
  have hb2 := Int64.toInt_lt x
  have h2 : (x.toInt.tmod y.toInt).natAbs ≤ x.toInt.natAbs := by
    rw [Int.natAbs_tmod]
    exact Nat.mod_le _ _
  by_cases h3 : 0 ≤ x.toInt
  · have := Int.tmod_nonneg y.toInt h3
    exact Int.bmod_eq_of_le (by omega) (by omega)
  · exact Int.bmod_eq_of_le (by omega) (by
      have h4 : x.toInt.tmod y.toInt ≤ 0 := by
        have e1 : x.toInt = -(-x.toInt) := by omega
        rw [e1, Int.neg_tmod]
        have := Int.tmod_nonneg (a := -x.toInt) y.toInt (by omega)
        omega
      omega)
theorem irem_eq (x y : Int32) : x - x / y * y = x % y := by
  apply eqI
  rw [Int32.toInt_sub, Int32.toInt_mul, Int32.toInt_div, Int32.toInt_mod, Int.bmod_mul_bmod, Int.sub_bmod_bmod]
  have h1 : x.toInt - x.toInt.tdiv y.toInt * y.toInt = x.toInt.tmod y.toInt := by
    rw [Int.tmod_def, Int.mul_comm]
  rw [h1]
  have hb := i32b x
  have h2 : (x.toInt.tmod y.toInt).natAbs ≤ x.toInt.natAbs := by
    rw [Int.natAbs_tmod]
    exact Nat.mod_le _ _
  by_cases h3 : 0 ≤ x.toInt
  · have := Int.tmod_nonneg y.toInt h3
    exact Int.bmod_eq_of_le (by omega) (by omega)
  · exact Int.bmod_eq_of_le (by omega) (by
      have h4 : x.toInt.tmod y.toInt ≤ 0 := by
        have e1 : x.toInt = -(-x.toInt) := by omega
        rw [e1, Int.neg_tmod]
        have := Int.tmod_nonneg (a := -x.toInt) y.toInt (by omega)
        omega
      omega)
theorem dvfin {r p q : Int} (h : r ∣ p ∧ r ∣ q) : (r ∣ p ∧ r ∣ q) ∧ (r ≠ 0 ∨ p = 0 ∧ q = 0) := by
  refine ⟨h, ?_⟩
  by_cases e : r = 0
  · subst e
    exact Or.inr ⟨Int.zero_dvd.mp h.1, Int.zero_dvd.mp h.2⟩
  · exact Or.inl e
