/-! the reference's exact numbers are written -/
def cL (G : Gh) (y : Int64) : Gh := (G.1, fun j => if j = 0 then y else G.2 j)
theorem asp_no {κ : Nat → Nat} {K j : Nat} (hK : ¬ (K = 50 ∨ K = 51 ∨ K = 52 ∨ K = 53 ∨ K = 54)) (G2 : Gh) : asp κ G2 K j = (if K = 22 then toK κ 1003 else if K = 24 then toK κ 10 else if K = 29 then toK κ 6 else if K = 30 then toK κ 8 else if K < 2000 then anyI else anyL) := by
  unfold asp
  rw [if_neg (c := K = 50) (by omega), if_neg (c := K = 51) (by omega), if_neg (c := K = 52) (by omega), if_neg (c := K = 53) (by omega), if_neg (c := K = 54) (by omega)]
theorem TW.k9 {D : va_G} {cy : Nat → ClassId} {κ : Nat → Nat} {G : Gh} {H : Heap} {a : Nat} (hT : TW D cy κ G H) (hk : κ a = 12) : 0 ≤ (G.1 3).toInt ∧ 5 * (G.1 3).toInt ≤ (G.1 9).toInt ∧ 0 ≤ (G.1 6).toInt ∧ (G.1 6).toInt ≤ 24 ∧ (G.1 6).toInt ≤ (G.1 8).toInt := by
  obtain ⟨V, -, hV⟩ := hT.1 a 11 hk (by decide)
  obtain ⟨x, -, e1, e2, e3, e4⟩ := (hV 0 (by decide) : is_I (fun x => x = G.1 3 ∧ 0 ≤ x.toInt ∧ x.toInt ≤ 3 ∧ 5 * x.toInt ≤ (G.1 9).toInt) (V 0))
  obtain ⟨y, -, f1, f2, f3, f4⟩ := (hV 30 (by decide) : is_I (fun x => x = G.1 6 ∧ 0 ≤ x.toInt ∧ x.toInt ≤ 24 ∧ x.toInt ≤ (G.1 8).toInt) (V 30))
  rw [e1] at e2 e3 e4
  rw [f1] at f2 f3 f4
  exact ⟨e2, e4, f2, f3, f4⟩
section TWX
variable {p : Program} {l : Launch} {e : Env} {R : Room} {s : State} {m : MethodId} {args : Array Value} {below : List Frame} {meth : Method} {c : Code} {H : Heap} {locs : List Loc} {cells slots : Nat} {Q : State → Prop}
variable {cc : ByteArray} {pc : Nat} {ls : Array Slot} {rest : List Value} {D : va_G} {cy : Nat → ClassId} {κ : Nat → Nat} {G : Gh} {a : Nat} {H0 : Heap} {own : String} {index : Nat} {Ts : List Cond}
/-- an array of which there is one, and whose places are known: a store that changes what is known -/
theorem tw_iasG (G' : Gh) (hexec : p.tables.exec = Jvm.exec) (hb : c.code = cc) (hK : KK D cy s) (hT : TW D cy κ G H) (hS : va_S (AA κ) H0 H locs) {K : Nat} (hk : κ a = K) (h13 : 13 ≤ K) (hsg : sing K) (ht : aT K = 0) {n : Nat} (hn : aN K = n) {i x : Int32} (hin : 0 ≤ i.toInt ∧ i.toInt < (n : Int)) (hdg : decode cc pc = .ok (.iastore, 1)) (hx : asp κ G' K i.toInt.toNat (.int x))
    (hown : ∀ j w, j < aN K → j ≠ i.toInt.toNat → asp κ G K j w → asp κ G' K j w) (hf : ∀ K' k b w, fsp κ G K' k b w → fsp κ G' K' k b w) (ha : ∀ K' j w, K' ≠ K → 13 ≤ K' → j < aN K' → asp κ G K' j w → asp κ G' K' j w)
    (kk : ∀ (H1 : Heap) (locs1 : List Loc), TW D cy κ G' H1 → va_S (AA κ) H0 H1 locs1 → W p l e R s m args below meth c H1 locs1 cells slots Q (F0 m (pc + 1) ls rest)) : W p l e R s m args below meth c H locs cells slots Q (F0 m pc ls (.int x :: .int i :: .ref a :: rest)) := by
  refine tw_ias0 hexec hb hK hT hS hk h13 ht hn hin hdg (fun f H1 locs1 hf1 he hq hS1 => kk H1 locs1 ?_ hS1)
  subst hk
  refine hT.ast h13 he (fun j hj => ?_) hq (fun _ _ _ _ h => hf _ _ _ _ h) (fun b hne hb13 j w hj h => ha _ j w (fun e => hne (hT.2.2 b a e (by rw [e]; exact hsg))) hb13 hj h)
  by_cases e : j = i.toNatClampNeg
  · subst e
    have hx' : asp κ G' (κ a) i.toNatClampNeg (.int x) := hx
    simpa [updV] using hx'
  · have := hown j _ hj e (hf1 j hj)
    simpa [updV, e] using this
theorem tw_lasG (G' : Gh) (hexec : p.tables.exec = Jvm.exec) (hb : c.code = cc) (hK : KK D cy s) (hT : TW D cy κ G H) (hS : va_S (AA κ) H0 H locs) {K : Nat} (hk : κ a = K) (h13 : 13 ≤ K) (hsg : sing K) (ht : aT K = 1) {n : Nat} (hn : aN K = n) {i : Int32} {x : Int64} (hin : 0 ≤ i.toInt ∧ i.toInt < (n : Int)) (hdg : decode cc pc = .ok (.lastore, 1)) (hx : asp κ G' K i.toInt.toNat (.long x))
    (hown : ∀ j w, j < aN K → j ≠ i.toInt.toNat → asp κ G K j w → asp κ G' K j w) (hf : ∀ b c' j w, κ b = c' + 1 → j < nF c' → fsp κ G (c' + 1) j b w → fsp κ G' (c' + 1) j b w) (ha : ∀ K' j w, K' ≠ K → 13 ≤ K' → j < aN K' → asp κ G K' j w → asp κ G' K' j w)
    (kk : ∀ (H1 : Heap) (locs1 : List Loc), TW D cy κ G' H1 → va_S (AA κ) H0 H1 locs1 → W p l e R s m args below meth c H1 locs1 cells slots Q (F0 m (pc + 1) ls rest)) : W p l e R s m args below meth c H locs cells slots Q (F0 m pc ls (.long x :: .int i :: .ref a :: rest)) := by
  refine tw_las0 hexec hb hK hT hS hk h13 ht hn hin hdg (fun f H1 locs1 hf1 he hq hS1 => kk H1 locs1 ?_ hS1)
  subst hk
  refine ⟨fun b c2 hb2 hc2 => ?_, fun b hb13 => ?_, hT.2.2⟩
  · obtain ⟨V0, h1, h2⟩ := hT.1 b c2 hb2 hc2
    have e : b ≠ a := fun e => by subst e; omega
    exact ⟨V0, h1.kept (hq b e), fun k hk' => hf b c2 k _ hb2 hk' (h2 k hk')⟩
  · by_cases e : b = a
    · subst e
      refine ⟨_, he, fun j hj => ?_⟩
      by_cases e2 : j = i.toNatClampNeg
      · subst e2
        have hx' : asp κ G' (κ b) i.toNatClampNeg (.long x) := hx
        simpa [updV] using hx'
      · have := hown j _ hj e2 (hf1 j hj)
        simpa [updV, e2] using this
    · obtain ⟨f0, h1, h2⟩ := hT.2.1 b hb13
      exact ⟨f0, by rw [hq b e]; exact h1, fun j hj => ha _ j _ (fun e9 => e (hT.2.2 b a e9 (by rw [e9]; exact hsg))) hb13 hj (h2 j hj)⟩
theorem fsp_hi {i : Nat} {x : Int32} (hi : 100 ≤ i ∧ i < 1000) {K' k b : Nat} {w : Value} (h : fsp κ G K' k b w) : fsp κ (cG G i x) K' k b w := by
  have ee : ∀ j, j ≠ i → (cG G i x).1 j = G.1 j := fun j hj => if_neg hj
  rw [fsp_eq (G := G) (G' := cG G i x) (ee 0 (by omega)) (ee 1 (by omega)) (ee 2 (by omega)) (ee 3 (by omega)) (ee 4 (by omega)) (ee 5 (by omega)) (ee 6 (by omega)) (ee 7 (by omega)) (ee 8 (by omega)) (ee 9 (by omega)) rfl (ee (1000 + b) (by omega))]
  exact h
theorem ag_50 (hexec : p.tables.exec = Jvm.exec) (hb : c.code = cc) (hK : KK D cy s) (hT : TW D cy κ G H) (hS : va_S (AA κ) H0 H locs) (hk : κ a = 50) {i x : Int32} (hin : 0 ≤ i.toInt ∧ i.toInt < 5) (hdg : decode cc pc = .ok (.iastore, 1)) (hv : (0 ≤ x.toInt ∧ x.toInt ≤ 12) ∧ ((G.1 3).toInt = 0 → x.toInt = 0))
    (kk : ∀ (H1 : Heap) (locs1 : List Loc), TW D cy κ (cG G (100 + i.toInt.toNat) x) H1 → va_S (AA κ) H0 H1 locs1 → W p l e R s m args below meth c H1 locs1 cells slots Q (F0 m (pc + 1) ls rest)) : W p l e R s m args below meth c H locs cells slots Q (F0 m pc ls (.int x :: .int i :: .ref a :: rest)) := by
  have ee : ∀ j, j ≠ 100 + i.toInt.toNat → (cG G (100 + i.toInt.toNat) x).1 j = G.1 j := fun j hj => if_neg hj
  refine tw_iasG (cG G (100 + i.toInt.toNat) x) (K := 50) (n := 5) hexec hb hK hT hS hk (by decide) (by unfold sing; omega) rfl rfl hin hdg ⟨x, rfl, (if_pos rfl : (cG G (100 + i.toInt.toNat) x).1 (100 + i.toInt.toNat) = x).symm, hv.1, fun h => hv.2 (by rw [ee 3 (by omega)] at h; exact h)⟩ (fun j w hj hne h => ?_) (fun K' k b w h => fsp_hi (by omega) h) (fun K' j w hne h13 hj h => ?_) kk
  · rw [asp_eq (G := G) (ee 3 (by omega)) (ee 8 (by omega)) (ee 9 (by omega)) (ee (100 + j) (by omega)) (ee (200 + j) (by omega))]; exact h
  · by_cases hK2 : K' = 50 ∨ K' = 51 ∨ K' = 52 ∨ K' = 53 ∨ K' = 54
    · have hj2 := aN_small hK2 hj
      rcases hK2 with rfl | rfl | rfl | rfl | rfl
      · exact absurd rfl hne
      · obtain ⟨z, e1, e2⟩ := h
        exact ⟨z, e1, by rw [ee 3 (by omega)]; exact e2⟩
      · obtain ⟨z, e1, e2⟩ := h
        exact ⟨z, e1, by rw [ee (200 + j) (by omega)]; exact e2⟩
      · obtain ⟨z, e1, e2⟩ := h
        exact ⟨z, e1, by rw [ee 9 (by omega)]; exact e2⟩
      · obtain ⟨z, e1, e2⟩ := h
        exact ⟨z, e1, by rw [ee 8 (by omega)]; exact e2⟩
    · rw [asp_no hK2 G] at h
      rw [asp_no hK2]
      exact h
theorem ag_52 (hexec : p.tables.exec = Jvm.exec) (hb : c.code = cc) (hK : KK D cy s) (hT : TW D cy κ G H) (hS : va_S (AA κ) H0 H locs) (hk : κ a = 52) {i x : Int32} (hin : 0 ≤ i.toInt ∧ i.toInt < 60) (hdg : decode cc pc = .ok (.iastore, 1)) (hv : 0 ≤ x.toInt ∧ x.toInt ≤ 2)
    (kk : ∀ (H1 : Heap) (locs1 : List Loc), TW D cy κ (cG G (200 + i.toInt.toNat) x) H1 → va_S (AA κ) H0 H1 locs1 → W p l e R s m args below meth c H1 locs1 cells slots Q (F0 m (pc + 1) ls rest)) : W p l e R s m args below meth c H locs cells slots Q (F0 m pc ls (.int x :: .int i :: .ref a :: rest)) := by
  have ee : ∀ j, j ≠ 200 + i.toInt.toNat → (cG G (200 + i.toInt.toNat) x).1 j = G.1 j := fun j hj => if_neg hj
  refine tw_iasG (cG G (200 + i.toInt.toNat) x) (K := 52) (n := 60) hexec hb hK hT hS hk (by decide) (by unfold sing; omega) rfl rfl hin hdg ⟨x, rfl, (if_pos rfl : (cG G (200 + i.toInt.toNat) x).1 (200 + i.toInt.toNat) = x).symm, hv⟩ (fun j w hj hne h => ?_) (fun K' k b w h => fsp_hi (by omega) h) (fun K' j w hne h13 hj h => ?_) kk
  · obtain ⟨z, e1, e2⟩ := h
    exact ⟨z, e1, by rw [ee (200 + j) (by omega)]; exact e2⟩
  · by_cases hK2 : K' = 50 ∨ K' = 51 ∨ K' = 52 ∨ K' = 53 ∨ K' = 54
    · have hj2 := aN_small hK2 hj
      rcases hK2 with rfl | rfl | rfl | rfl | rfl
      · obtain ⟨z, e1, e2⟩ := h
        exact ⟨z, e1, by rw [ee (100 + j) (by omega), ee 3 (by omega)]; exact e2⟩
      · obtain ⟨z, e1, e2⟩ := h
        exact ⟨z, e1, by rw [ee 3 (by omega)]; exact e2⟩
      · exact absurd rfl hne
      · obtain ⟨z, e1, e2⟩ := h
        exact ⟨z, e1, by rw [ee 9 (by omega)]; exact e2⟩
      · obtain ⟨z, e1, e2⟩ := h
        exact ⟨z, e1, by rw [ee 8 (by omega)]; exact e2⟩
    · rw [asp_no hK2 G] at h
      rw [asp_no hK2]
      exact h
end TWX
