abbrev rmX1_init : Room := { frames := 1, cells := 5, slots := 16, locals := 32 }
theorem c_X1_init (l : Launch) (D : va_G) (cy : Nat → ClassId) (κ0 : Nat → Nat) (sz h0 : Nat) (hk0 : κ0 h0 = 0) (hlt : h0 < sz) (hsg2 : ∀ b, κ0 b ≠ 2) : Met l yX1_init wsX1_init rmX1_init (va_Pc [.ref h0] (CP D cy κ0 sz h0 1 (fun k => defaultValue (tyX1 k)))) (va_Qv (fun κ' => COk κ0 sz h0 (1 + 1) κ') (fun κ' t => CQ D cy κ' t) (AC κ0 h0 sz)) 5 16 (AC κ0 h0 sz) := by
  sorry
