/-! THE LAW from its entry: both objects are made, then its loop, then 1 -/
theorem TW.nil {D : va_G} {cy : Nat → ClassId} {G : Gh} {H : Heap} : TW D cy (fun _ => 0) G H :=
  ⟨fun a ci h _ => absurd h (Nat.succ_ne_zero ci).symm, fun a h => absurd h (show ¬ 13 ≤ 0 by omega), fun a b _ h => absurd h (show ¬ sing 0 by unfold sing; omega)⟩
theorem lw_pre {s : State} {H : Heap} {D : va_G} {cy : Nat → ClassId} {κ : Nat → Nat} {q cj : Nat} {V2 : Nat → Value} {As : List Value} (hK : KK D cy s) (hN : NW s) (hT : TW D cy κ Z0 H) (hqo : t_OB q (D.1 cj) (nF cj) (D.2 cj) H V2) : PreS s H (va_Pc (.ref q :: As) (CP D cy κ H.size q cj V2)) (.ref q :: As) :=
  ⟨CP.blind, fun U hU hW => ⟨rfl, by rw [hU], by rw [hU]; exact hT, va_K.moved hW.alike hK, hN.warm hW, by rw [hU]; exact hqo⟩⟩
set_option maxHeartbeats 4000000 in
set_option maxRecDepth 100000 in
theorem whole_start {p : Program} {e : Env} {s : State} {m : MethodId} {below : List Frame} {meth : Method} {c : Code} (l : Launch) {b L : Nat} {xs : Nat → Int32} (hL : L ≤ 3584) (C0 : lw_At p s m meth c b L xs) : W p l e room_1 s m #[Value.ref b] below meth c s.heap [] 0 0 (lw_Z below #[Value.ref b] s) (entryFrame m ([Value.ref b] : List Value).toArray 4) := by
  obtain ⟨hx, hb, hr, hml, hown, hts, hX, hbl, hlocks, hgv⟩ := id C0
  have hown : s.vm.findClass RL = some m.cls := hown
  have hb : c.code = cL_law := hb
  obtain ⟨D, cy, hK⟩ := law_K hts
  have hN := law_NW hts
  have hcl7 := hts (.classLink RL 7 RX10) (in_wsL_law_r1 _ (List.mem_of_getElem? (i := 0) rfl))
  have his10 := hts (.instantiable RX10 11) (in_wsL_law_r1 _ (List.mem_of_getElem? (i := 1) rfl))
  have hini10 := hts (.initialized RX10) (in_wsL_law_r1 _ (List.mem_of_getElem? (i := 2) rfl))
  have hcl10 := hts (.classLink RL 10 RX11) (in_wsL_law_r1 _ (List.mem_of_getElem? (i := 3) rfl))
  have his11 := hts (.instantiable RX11 31) (in_wsL_law_r1 _ (List.mem_of_getElem? (i := 4) rfl))
  have hini11 := hts (.initialized RX11) (in_wsL_law_r1 _ (List.mem_of_getElem? (i := 5) rfl))
  have hml9 := hts (.methodLink RL 9 yX10_init) (in_wsL_law_r1 _ (List.mem_of_getElem? (i := 6) rfl))
  have him10 := hts (.instanceMethod yX10_init) (in_wsL_law_r1 _ (List.mem_of_getElem? (i := 7) rfl))
  have hml12 := hts (.methodLink RL 12 yX11_init) (in_wsL_law_r6 _ (List.mem_of_getElem? (i := 19) rfl))
  have him11 := hts (.instanceMethod yX11_init) (in_wsL_law_r6 _ (List.mem_of_getElem? (i := 20) rfl))
  have hS : va_S (fun q : Nat => s.heap.size ≤ q) s.heap s.heap [] := va_S.rf
  have hl := lv_entry ([.ref b]) (n := 4) (Nat.le_of_ble_eq_true rfl)
  rw [lg_entry_eq]
  generalize (lg_sl ([.ref b]) ++ List.replicate (4 - (lg_sl ([.ref b])).length) Slot.unset).toArray = ls at hl ⊢
  have hl : lv_has ls 4 [(0, .ref b)] := hl
  have hT : TW D cy (fun _ => 0) Z0 s.heap := TW.nil
  refine r_new (C := RX10) (T := TX10) (N := 11) (ci := 10) hx hb hts inw_10 tyX10 tyX10_ok hown hcl7 his10 hini10 hK hT hS rfl rfl (Nat.le_of_ble_eq_true rfl) (Nat.le_of_ble_eq_true rfl) dL_law_0 (fun H1 hT ho hS hq hz => ?_)
  refine lv_dup hx hb dL_law_3 rfl ?_
  have hA1 : ∀ q, AC (fun _ => 0) s.heap.size H1.size q → (fun q : Nat => s.heap.size ≤ q) q := by
    rintro q (h | h | h)
    · exact absurd rfl h
    · show s.heap.size ≤ q; omega
    · show s.heap.size ≤ q; omega
  refine va_callv (va_runI (As := []) (rest := [.ref s.heap.size]) ⟨hx, hb, hml, hown, hts⟩ (c_X10_init l D cy (fun _ => 0) H1.size s.heap.size rfl (by omega) (fun _ h => by cases h) (fun _ h => by cases h)) (cwI 0 hts gw_X10_init rfl rfl rfl hini10 hml9 him10 rfl (by decide +kernel) ⟨Nat.le_of_ble_eq_true rfl, Nat.le_of_ble_eq_true rfl⟩) (lw_pre hK hN hT ho) rfl rfl hl.1 rfl (lv_room (Nat.le_of_ble_eq_true rfl)) dL_law_4 ⟨Nat.le_of_ble_eq_true rfl, Nat.le_of_ble_eq_true rfl⟩) hS (fun q _ h => hA1 q h) hA1 (fun κ1 t H2 locs2 ht _ hp hB hz2 _ hS => ?_)
  have hT : TW D cy κ1 Z0 H2 := by rw [← ht]; exact hB.1
  obtain ⟨-, kx, hn1, hsg1⟩ := hp
  have hn1 : ∀ q, κ1 q ≠ 0 → s.heap.size ≤ q := fun q h => by
    rcases hn1 q h with h | h | h
    · exact absurd rfl h
    · omega
    · omega
  have hnoM : noM κ1 := by
    have key : ∀ K, (K = 12 ∨ K = 50 ∨ K = 51 ∨ K = 52 ∨ K = 53 ∨ K = 54) → ∀ b, κ1 b ≠ K := by
      intro K hK' b hb'
      by_cases e : b = s.heap.size
      · rw [e, kx] at hb'; omega
      · rcases hsg1 b e (by rw [hb']; unfold sing; omega) with h | h
        · rw [hb'] at h
          have h : 0 = K := h
          omega
        · omega
    exact fun b => ⟨key 12 (by omega) b, key 50 (by omega) b, key 51 (by omega) b, key 52 (by omega) b, key 53 (by omega) b, key 54 (by omega) b⟩
  have hk2z : κ1 H2.size = 0 := hT.none (Nat.le_refl _)
  refine lv_astore_n (lv' := [(1, .ref s.heap.size), (0, .ref b)]) hx hb dL_law_7 rfl hl (by decide) rfl (fun ls hl => ?_)
  refine r_new (C := RX11) (T := TX11) (N := 31) (ci := 11) hx hb hts inw_11 tyX11 tyX11_ok hown hcl10 his11 hini11 hK hT hS rfl rfl (Nat.le_of_ble_eq_true rfl) (Nat.le_of_ble_eq_true rfl) dL_law_8 (fun H3 hT ho hS hq3 hz3 => ?_)
  refine lv_dup hx hb dL_law_11 rfl ?_
  have hA2 : ∀ q, AC κ1 H2.size H3.size q → (fun q : Nat => s.heap.size ≤ q) q := by
    rintro q (h | h | h)
    · exact hn1 q h
    · show s.heap.size ≤ q; omega
    · show s.heap.size ≤ q; omega
  refine va_callv (va_runI (As := []) (rest := [.ref H2.size]) ⟨hx, hb, hml, hown, hts⟩ (c_X11_init l D cy κ1 H3.size H2.size hk2z (by omega) hnoM) (cwI 0 hts gw_X11_init rfl rfl rfl hini11 hml12 him11 rfl (by decide +kernel) ⟨Nat.le_of_ble_eq_true rfl, Nat.le_of_ble_eq_true rfl⟩) (lw_pre hK hN hT ho) rfl rfl hl.1 rfl (lv_room (Nat.le_of_ble_eq_true rfl)) dL_law_12 ⟨Nat.le_of_ble_eq_true rfl, Nat.le_of_ble_eq_true rfl⟩) hS (fun q _ h => hA2 q h) hA2 (fun κ2 t2 H4 locs4 ht2 _ hp hB hz4 _ hS => ?_)
  have hT : TW D cy κ2 Z0 H4 := by rw [← ht2]; exact hB.1
  obtain ⟨hx2, km, hn2⟩ := hp
  have kx2 : κ2 s.heap.size = 11 := (hx2 _ (by rw [kx]; decide)).trans kx
  have hκ : ∀ q, κ2 q ≠ 0 → (fun q : Nat => s.heap.size ≤ q) q := fun q h => by
    show s.heap.size ≤ q
    rcases hn2 q h with h | h | h
    · exact hn1 q h
    · omega
    · omega
  refine lv_astore_n (lv' := [(2, .ref H2.size), (1, .ref s.heap.size), (0, .ref b)]) hx hb dL_law_15 rfl hl (by decide) rfl (fun ls hl => ?_)
  refine lv_iconst (v := 0) hx hb dL_law_16 (by decide) ?_
  refine lv_istore_n (lv' := [(3, .int 0), (2, .ref H2.size), (1, .ref s.heap.size), (0, .ref b)]) hx hb dL_law_17 rfl hl (by decide) rfl (fun ls hl => ?_)
  refine law_loop hx hb hml hown hts hX hbl hK kx2 km hκ ⟨Nat.le_of_ble_eq_true rfl, Nat.le_of_ble_eq_true rfl⟩ hL (fun H5 locs5 ls hS => ?_) _ Z0 H4 locs4 ls 0 rfl ⟨rfl, rfl, rfl⟩ hT hS hl (by decide)
  refine lv_iconst (v := 1) hx hb dL_law_1232 (by decide) ?_
  refine va_forget (fun q hq => hS.2.2 q hq) ?_
  refine W.widen (k := 600000) (n := 7302250) (Nat.le_of_ble_eq_true rfl) (Nat.le_of_ble_eq_true rfl) ?_
  exact lw_ret hx hb hr hlocks dL_law_1233
