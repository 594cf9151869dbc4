set_option maxHeartbeats 4000000 in
set_option maxRecDepth 100000 in
theorem law_c0 {p : Program} {l : Launch} {e : Env} {s : State} {m : MethodId} {below : List Frame} {meth : Method} {c : Code} {b L : Nat} {xs : Nat → Int32} {cells slots : Nat} {Q : State → Prop} {D : va_G} {cy : Nat → ClassId} {κ : Nat → Nat} {q0 q1 : Nat} (hx : p.tables.exec = Jvm.exec) (hb : c.code = cL_law) (hml : c.maxLocals = 4) (hown : s.vm.findClass RL = some m.cls) (hts : ∀ w ∈ lw_tbl, w.before #[Value.ref b] s = true) (hX : va_X b L xs s s.heap) (hbl : b < s.heap.size) (hK : KK D cy s) (kx : κ q0 = 11) (km : κ q1 = 12) (hκ : ∀ q, κ q ≠ 0 → (fun q : Nat => s.heap.size ≤ q) q) (hc : cells ≤ 600000 ∧ slots ≤ 7302250) {g : Gh} {H : Heap} {locs : List Loc} {ls : Array Slot} {x3 : Int32} (hE : EQ g) (hT : TW D cy κ g H) (hS : va_S (fun q : Nat => s.heap.size ≤ q) s.heap H locs) (hl : lv_has ls 4 [(3, .int x3), (2, .ref q1), (1, .ref q0), (0, .ref b)]) (h3 : 0 ≤ x3.toInt ∧ x3.toInt + 7 ≤ (L : Int)) (hL : L ≤ 3584) (kend : ∀ (g1 : Gh) (H1 : Heap) (locs1 : List Loc), EQ g1 → TW D cy κ g1 H1 → va_S (fun q : Nat => s.heap.size ≤ q) s.heap H1 locs1 → W p l e room_1 s m #[Value.ref b] below meth c H1 locs1 cells slots Q (F0 m 1226 ls [])) : W p l e room_1 s m #[Value.ref b] below meth c H locs cells slots Q (F0 m 160 ls []) := by
  have hbA : ¬ (fun q : Nat => s.heap.size ≤ q) b := Nat.not_le.mpr hbl
  have hc1 : (1 : Int32).toInt = 1 := rfl
  have hc2 : (2 : Int32).toInt = 2 := rfl
  have hc3 : (3 : Int32).toInt = 3 := rfl
  have hc4 : (4 : Int32).toInt = 4 := rfl
  refine lv_aload_n hx hb dL_law_160 rfl (lv_at hl 2 rfl) ?_
  refine lv_aload_n hx hb dL_law_161 rfl (lv_at hl 3 rfl) ?_
  refine lv_iload_n hx hb dL_law_162 rfl (lv_at hl 0 rfl) ?_
  refine lv_iconst (v := (1 : Int32)) hx hb dL_law_163 (by decide) ?_
  refine lv_iadd hx hb dL_law_164 ?_
  refine lv_topi (fun x91 ex91 => ?_)
  have tx91 : x91.toInt = x3.toInt + (1 : Int32).toInt := by rw [ex91]; exact ti_add (by omega)
  refine va_sld hx hb hX hbl hbA hS (vin (by omega)) dL_law_165 ?_
  refine lv_topi (fun v2 ev2 => ?_)
  refine lv_aload_n hx hb dL_law_166 rfl (lv_at hl 3 rfl) ?_
  refine lv_iload_n hx hb dL_law_167 rfl (lv_at hl 0 rfl) ?_
  refine lv_iconst (v := (2 : Int32)) hx hb dL_law_168 (by decide) ?_
  refine lv_iadd hx hb dL_law_169 ?_
  refine lv_topi (fun x93 ex93 => ?_)
  have tx93 : x93.toInt = x3.toInt + (2 : Int32).toInt := by rw [ex93]; exact ti_add (by omega)
  refine va_sld hx hb hX hbl hbA hS (vin (by omega)) dL_law_170 ?_
  refine lv_topi (fun v4 ev4 => ?_)
  refine lv_aload_n hx hb dL_law_171 rfl (lv_at hl 3 rfl) ?_
  refine lv_iload_n hx hb dL_law_172 rfl (lv_at hl 0 rfl) ?_
  refine lv_iconst (v := (3 : Int32)) hx hb dL_law_173 (by decide) ?_
  refine lv_iadd hx hb dL_law_174 ?_
  refine lv_topi (fun x95 ex95 => ?_)
  have tx95 : x95.toInt = x3.toInt + (3 : Int32).toInt := by rw [ex95]; exact ti_add (by omega)
  refine va_sld hx hb hX hbl hbA hS (vin (by omega)) dL_law_175 ?_
  refine lv_topi (fun v6 ev6 => ?_)
  refine lv_aload_n hx hb dL_law_176 rfl (lv_at hl 3 rfl) ?_
  refine lv_iload_n hx hb dL_law_177 rfl (lv_at hl 0 rfl) ?_
  refine lv_iconst (v := (4 : Int32)) hx hb dL_law_178 (by decide) ?_
  refine lv_iadd hx hb dL_law_179 ?_
  refine lv_topi (fun x97 ex97 => ?_)
  have tx97 : x97.toInt = x3.toInt + (4 : Int32).toInt := by rw [ex97]; exact ti_add (by omega)
  refine va_sld hx hb hX hbl hbA hS (vin (by omega)) dL_law_180 ?_
  refine lv_topi (fun v8 ev8 => ?_)
  refine lw_Vi (q := (RX10, TX10, 11)) (As := [.int v2, .int v4, .int v6, .int v8]) (rest := []) ⟨hx, hb, hml, hown, hts⟩ (c_X10_stuff l D cy κ g q0 kx v2 v4 v6 v8) (cwV 4 hts g2_X10_stuff rfl rfl rfl (by decide +kernel) ⟨Nat.le_of_ble_eq_true rfl, Nat.le_of_ble_eq_true rfl⟩) hK hT hS hκ kx (by decide) rfl rfl hl.1 rfl (Nat.le_of_ble_eq_true rfl) dL_law_181 hc (fun r9 u10 H locs hpu10 hT hS => ?_)
  refine lv_aload_n hx hb dL_law_184 rfl (lv_at hl 1 rfl) ?_
  refine lv_aload_n hx hb dL_law_185 rfl (lv_at hl 3 rfl) ?_
  refine lv_iload_n hx hb dL_law_186 rfl (lv_at hl 0 rfl) ?_
  refine lv_iconst (v := (1 : Int32)) hx hb dL_law_187 (by decide) ?_
  refine lv_iadd hx hb dL_law_188 ?_
  refine lv_topi (fun x911 ex911 => ?_)
  have tx911 : x911.toInt = x3.toInt + (1 : Int32).toInt := by rw [ex911]; exact ti_add (by omega)
  refine va_sld hx hb hX hbl hbA hS (vin (by omega)) dL_law_189 ?_
  refine lv_topi (fun v12 ev12 => ?_)
  obtain rfl : v2 = v12 := by rw [ev2, ev12, ex91, ex911]
  refine lv_aload_n hx hb dL_law_190 rfl (lv_at hl 3 rfl) ?_
  refine lv_iload_n hx hb dL_law_191 rfl (lv_at hl 0 rfl) ?_
  refine lv_iconst (v := (2 : Int32)) hx hb dL_law_192 (by decide) ?_
  refine lv_iadd hx hb dL_law_193 ?_
  refine lv_topi (fun x913 ex913 => ?_)
  have tx913 : x913.toInt = x3.toInt + (2 : Int32).toInt := by rw [ex913]; exact ti_add (by omega)
  refine va_sld hx hb hX hbl hbA hS (vin (by omega)) dL_law_194 ?_
  refine lv_topi (fun v14 ev14 => ?_)
  obtain rfl : v4 = v14 := by rw [ev4, ev14, ex93, ex913]
  refine lv_aload_n hx hb dL_law_195 rfl (lv_at hl 3 rfl) ?_
  refine lv_iload_n hx hb dL_law_196 rfl (lv_at hl 0 rfl) ?_
  refine lv_iconst (v := (3 : Int32)) hx hb dL_law_197 (by decide) ?_
  refine lv_iadd hx hb dL_law_198 ?_
  refine lv_topi (fun x915 ex915 => ?_)
  have tx915 : x915.toInt = x3.toInt + (3 : Int32).toInt := by rw [ex915]; exact ti_add (by omega)
  refine va_sld hx hb hX hbl hbA hS (vin (by omega)) dL_law_199 ?_
  refine lv_topi (fun v16 ev16 => ?_)
  obtain rfl : v6 = v16 := by rw [ev6, ev16, ex95, ex915]
  refine lv_aload_n hx hb dL_law_200 rfl (lv_at hl 3 rfl) ?_
  refine lv_iload_n hx hb dL_law_201 rfl (lv_at hl 0 rfl) ?_
  refine lv_iconst (v := (4 : Int32)) hx hb dL_law_202 (by decide) ?_
  refine lv_iadd hx hb dL_law_203 ?_
  refine lv_topi (fun x917 ex917 => ?_)
  have tx917 : x917.toInt = x3.toInt + (4 : Int32).toInt := by rw [ex917]; exact ti_add (by omega)
  refine va_sld hx hb hX hbl hbA hS (vin (by omega)) dL_law_204 ?_
  refine lv_topi (fun v18 ev18 => ?_)
  obtain rfl : v8 = v18 := by rw [ev8, ev18, ex97, ex917]
  refine lw_Vi (q := (RX11, TX11, 31)) (As := [.int v2, .int v4, .int v6, .int v8]) (rest := [.int r9]) ⟨hx, hb, hml, hown, hts⟩ (c_X11_stuff l D cy κ u10 q1 km v2 v4 v6 v8) (cwV 4 hts g2_X11_stuff rfl rfl rfl (by decide +kernel) ⟨Nat.le_of_ble_eq_true rfl, Nat.le_of_ble_eq_true rfl⟩) hK hT hS hκ km (by decide) rfl rfl hl.1 rfl (Nat.le_of_ble_eq_true rfl) dL_law_205 hc (fun r19 u20 H locs hpu20 hT hS => ?_)
  refine tb_icmp_eq (tgt := 1226) hx hb dL_law_208 (by decide) (fun cq => ?_) (fun cq => ?_)
  · exact kend u20 H locs (eq_stuff (g := g) (u := u10) (v := u20) (r := r9) (t := r19) hpu10 hpu20 hE).1 hT hS
  · exact absurd (eq_stuff (g := g) (u := u10) (v := u20) (r := r9) (t := r19) hpu10 hpu20 hE).2 cq
set_option maxHeartbeats 4000000 in
set_option maxRecDepth 100000 in
theorem law_c1 {p : Program} {l : Launch} {e : Env} {s : State} {m : MethodId} {below : List Frame} {meth : Method} {c : Code} {b L : Nat} {xs : Nat → Int32} {cells slots : Nat} {Q : State → Prop} {D : va_G} {cy : Nat → ClassId} {κ : Nat → Nat} {q0 q1 : Nat} (hx : p.tables.exec = Jvm.exec) (hb : c.code = cL_law) (hml : c.maxLocals = 4) (hown : s.vm.findClass RL = some m.cls) (hts : ∀ w ∈ lw_tbl, w.before #[Value.ref b] s = true) (hX : va_X b L xs s s.heap) (hbl : b < s.heap.size) (hK : KK D cy s) (kx : κ q0 = 11) (km : κ q1 = 12) (hκ : ∀ q, κ q ≠ 0 → (fun q : Nat => s.heap.size ≤ q) q) (hc : cells ≤ 600000 ∧ slots ≤ 7302250) {g : Gh} {H : Heap} {locs : List Loc} {ls : Array Slot} {x3 : Int32} (hE : EQ g) (hT : TW D cy κ g H) (hS : va_S (fun q : Nat => s.heap.size ≤ q) s.heap H locs) (hl : lv_has ls 4 [(3, .int x3), (2, .ref q1), (1, .ref q0), (0, .ref b)]) (h3 : 0 ≤ x3.toInt ∧ x3.toInt + 7 ≤ (L : Int)) (hL : L ≤ 3584) (kend : ∀ (g1 : Gh) (H1 : Heap) (locs1 : List Loc), EQ g1 → TW D cy κ g1 H1 → va_S (fun q : Nat => s.heap.size ≤ q) s.heap H1 locs1 → W p l e room_1 s m #[Value.ref b] below meth c H1 locs1 cells slots Q (F0 m 1226 ls [])) : W p l e room_1 s m #[Value.ref b] below meth c H locs cells slots Q (F0 m 213 ls []) := by
  have hbA : ¬ (fun q : Nat => s.heap.size ≤ q) b := Nat.not_le.mpr hbl
  have hc1 : (1 : Int32).toInt = 1 := rfl
  have hc2 : (2 : Int32).toInt = 2 := rfl
  have hc3 : (3 : Int32).toInt = 3 := rfl
  refine lv_aload_n hx hb dL_law_213 rfl (lv_at hl 2 rfl) ?_
  refine lv_aload_n hx hb dL_law_214 rfl (lv_at hl 3 rfl) ?_
  refine lv_iload_n hx hb dL_law_215 rfl (lv_at hl 0 rfl) ?_
  refine lv_iconst (v := (1 : Int32)) hx hb dL_law_216 (by decide) ?_
  refine lv_iadd hx hb dL_law_217 ?_
  refine lv_topi (fun x91 ex91 => ?_)
  have tx91 : x91.toInt = x3.toInt + (1 : Int32).toInt := by rw [ex91]; exact ti_add (by omega)
  refine va_sld hx hb hX hbl hbA hS (vin (by omega)) dL_law_218 ?_
  refine lv_topi (fun v2 ev2 => ?_)
  refine lv_aload_n hx hb dL_law_219 rfl (lv_at hl 3 rfl) ?_
  refine lv_iload_n hx hb dL_law_220 rfl (lv_at hl 0 rfl) ?_
  refine lv_iconst (v := (2 : Int32)) hx hb dL_law_221 (by decide) ?_
  refine lv_iadd hx hb dL_law_222 ?_
  refine lv_topi (fun x93 ex93 => ?_)
  have tx93 : x93.toInt = x3.toInt + (2 : Int32).toInt := by rw [ex93]; exact ti_add (by omega)
  refine va_sld hx hb hX hbl hbA hS (vin (by omega)) dL_law_223 ?_
  refine lv_topi (fun v4 ev4 => ?_)
  refine lv_aload_n hx hb dL_law_224 rfl (lv_at hl 3 rfl) ?_
  refine lv_iload_n hx hb dL_law_225 rfl (lv_at hl 0 rfl) ?_
  refine lv_iconst (v := (3 : Int32)) hx hb dL_law_226 (by decide) ?_
  refine lv_iadd hx hb dL_law_227 ?_
  refine lv_topi (fun x95 ex95 => ?_)
  have tx95 : x95.toInt = x3.toInt + (3 : Int32).toInt := by rw [ex95]; exact ti_add (by omega)
  refine va_sld hx hb hX hbl hbA hS (vin (by omega)) dL_law_228 ?_
  refine lv_topi (fun v6 ev6 => ?_)
  refine lw_Vi (q := (RX10, TX10, 11)) (As := [.int v2, .int v4, .int v6]) (rest := []) ⟨hx, hb, hml, hown, hts⟩ (c_X10_strength l D cy κ g q0 kx v2 v4 v6) (cwV 3 hts g2_X10_strength rfl rfl rfl (by decide +kernel) ⟨Nat.le_of_ble_eq_true rfl, Nat.le_of_ble_eq_true rfl⟩) hK hT hS hκ kx (by decide) rfl rfl hl.1 rfl (Nat.le_of_ble_eq_true rfl) dL_law_229 hc (fun r7 u8 H locs hpu8 hT hS => ?_)
  refine lv_pop hx hb dL_law_232 rfl ?_
  refine lv_aload_n hx hb dL_law_233 rfl (lv_at hl 1 rfl) ?_
  refine lv_aload_n hx hb dL_law_234 rfl (lv_at hl 3 rfl) ?_
  refine lv_iload_n hx hb dL_law_235 rfl (lv_at hl 0 rfl) ?_
  refine lv_iconst (v := (1 : Int32)) hx hb dL_law_236 (by decide) ?_
  refine lv_iadd hx hb dL_law_237 ?_
  refine lv_topi (fun x99 ex99 => ?_)
  have tx99 : x99.toInt = x3.toInt + (1 : Int32).toInt := by rw [ex99]; exact ti_add (by omega)
  refine va_sld hx hb hX hbl hbA hS (vin (by omega)) dL_law_238 ?_
  refine lv_topi (fun v10 ev10 => ?_)
  obtain rfl : v2 = v10 := by rw [ev2, ev10, ex91, ex99]
  refine lv_aload_n hx hb dL_law_239 rfl (lv_at hl 3 rfl) ?_
  refine lv_iload_n hx hb dL_law_240 rfl (lv_at hl 0 rfl) ?_
  refine lv_iconst (v := (2 : Int32)) hx hb dL_law_241 (by decide) ?_
  refine lv_iadd hx hb dL_law_242 ?_
  refine lv_topi (fun x911 ex911 => ?_)
  have tx911 : x911.toInt = x3.toInt + (2 : Int32).toInt := by rw [ex911]; exact ti_add (by omega)
  refine va_sld hx hb hX hbl hbA hS (vin (by omega)) dL_law_243 ?_
  refine lv_topi (fun v12 ev12 => ?_)
  obtain rfl : v4 = v12 := by rw [ev4, ev12, ex93, ex911]
  refine lv_aload_n hx hb dL_law_244 rfl (lv_at hl 3 rfl) ?_
  refine lv_iload_n hx hb dL_law_245 rfl (lv_at hl 0 rfl) ?_
  refine lv_iconst (v := (3 : Int32)) hx hb dL_law_246 (by decide) ?_
  refine lv_iadd hx hb dL_law_247 ?_
  refine lv_topi (fun x913 ex913 => ?_)
  have tx913 : x913.toInt = x3.toInt + (3 : Int32).toInt := by rw [ex913]; exact ti_add (by omega)
  refine va_sld hx hb hX hbl hbA hS (vin (by omega)) dL_law_248 ?_
  refine lv_topi (fun v14 ev14 => ?_)
  obtain rfl : v6 = v14 := by rw [ev6, ev14, ex95, ex913]
  refine lw_Vi (q := (RX11, TX11, 31)) (As := [.int v2, .int v4, .int v6]) (rest := []) ⟨hx, hb, hml, hown, hts⟩ (c_X11_strength l D cy κ u8 q1 km v2 v4 v6) (cwV 3 hts g2_X11_strength rfl rfl rfl (by decide +kernel) ⟨Nat.le_of_ble_eq_true rfl, Nat.le_of_ble_eq_true rfl⟩) hK hT hS hκ km (by decide) rfl rfl hl.1 rfl (Nat.le_of_ble_eq_true rfl) dL_law_249 hc (fun r15 u16 H locs hpu16 hT hS => ?_)
  refine lv_pop hx hb dL_law_252 rfl ?_
  refine lv_goto (tgt := 1226) hx hb dL_law_253 (by decide) ?_
  exact kend u16 H locs (EQ.cnt (cntG.of hpu16.1) (EQ.cnt (cntG.of hpu8.1) hE)) hT hS
set_option maxHeartbeats 4000000 in
set_option maxRecDepth 100000 in
theorem law_c2 {p : Program} {l : Launch} {e : Env} {s : State} {m : MethodId} {below : List Frame} {meth : Method} {c : Code} {b L : Nat} {xs : Nat → Int32} {cells slots : Nat} {Q : State → Prop} {D : va_G} {cy : Nat → ClassId} {κ : Nat → Nat} {q0 q1 : Nat} (hx : p.tables.exec = Jvm.exec) (hb : c.code = cL_law) (hml : c.maxLocals = 4) (hown : s.vm.findClass RL = some m.cls) (hts : ∀ w ∈ lw_tbl, w.before #[Value.ref b] s = true) (hX : va_X b L xs s s.heap) (hbl : b < s.heap.size) (hK : KK D cy s) (kx : κ q0 = 11) (km : κ q1 = 12) (hκ : ∀ q, κ q ≠ 0 → (fun q : Nat => s.heap.size ≤ q) q) (hc : cells ≤ 600000 ∧ slots ≤ 7302250) {g : Gh} {H : Heap} {locs : List Loc} {ls : Array Slot} {x3 : Int32} (hE : EQ g) (hT : TW D cy κ g H) (hS : va_S (fun q : Nat => s.heap.size ≤ q) s.heap H locs) (hl : lv_has ls 4 [(3, .int x3), (2, .ref q1), (1, .ref q0), (0, .ref b)]) (h3 : 0 ≤ x3.toInt ∧ x3.toInt + 7 ≤ (L : Int)) (hL : L ≤ 3584) (kend : ∀ (g1 : Gh) (H1 : Heap) (locs1 : List Loc), EQ g1 → TW D cy κ g1 H1 → va_S (fun q : Nat => s.heap.size ≤ q) s.heap H1 locs1 → W p l e room_1 s m #[Value.ref b] below meth c H1 locs1 cells slots Q (F0 m 1226 ls [])) : W p l e room_1 s m #[Value.ref b] below meth c H locs cells slots Q (F0 m 256 ls []) := by
  have hbA : ¬ (fun q : Nat => s.heap.size ≤ q) b := Nat.not_le.mpr hbl
  have hc1 : (1 : Int32).toInt = 1 := rfl
  have hc2 : (2 : Int32).toInt = 2 := rfl
  have hc3 : (3 : Int32).toInt = 3 := rfl
  refine lv_aload_n hx hb dL_law_256 rfl (lv_at hl 2 rfl) ?_
  refine lv_aload_n hx hb dL_law_257 rfl (lv_at hl 3 rfl) ?_
  refine lv_iload_n hx hb dL_law_258 rfl (lv_at hl 0 rfl) ?_
  refine lv_iconst (v := (1 : Int32)) hx hb dL_law_259 (by decide) ?_
  refine lv_iadd hx hb dL_law_260 ?_
  refine lv_topi (fun x91 ex91 => ?_)
  have tx91 : x91.toInt = x3.toInt + (1 : Int32).toInt := by rw [ex91]; exact ti_add (by omega)
  refine va_sld hx hb hX hbl hbA hS (vin (by omega)) dL_law_261 ?_
  refine lv_topi (fun v2 ev2 => ?_)
  refine lv_aload_n hx hb dL_law_262 rfl (lv_at hl 3 rfl) ?_
  refine lv_iload_n hx hb dL_law_263 rfl (lv_at hl 0 rfl) ?_
  refine lv_iconst (v := (2 : Int32)) hx hb dL_law_264 (by decide) ?_
  refine lv_iadd hx hb dL_law_265 ?_
  refine lv_topi (fun x93 ex93 => ?_)
  have tx93 : x93.toInt = x3.toInt + (2 : Int32).toInt := by rw [ex93]; exact ti_add (by omega)
  refine va_sld hx hb hX hbl hbA hS (vin (by omega)) dL_law_266 ?_
  refine lv_topi (fun v4 ev4 => ?_)
  refine lv_aload_n hx hb dL_law_267 rfl (lv_at hl 3 rfl) ?_
  refine lv_iload_n hx hb dL_law_268 rfl (lv_at hl 0 rfl) ?_
  refine lv_iconst (v := (3 : Int32)) hx hb dL_law_269 (by decide) ?_
  refine lv_iadd hx hb dL_law_270 ?_
  refine lv_topi (fun x95 ex95 => ?_)
  have tx95 : x95.toInt = x3.toInt + (3 : Int32).toInt := by rw [ex95]; exact ti_add (by omega)
  refine va_sld hx hb hX hbl hbA hS (vin (by omega)) dL_law_271 ?_
  refine lv_topi (fun v6 ev6 => ?_)
  refine lw_Vi (q := (RX10, TX10, 11)) (As := [.int v2, .int v4, .int v6]) (rest := []) ⟨hx, hb, hml, hown, hts⟩ (c_X10_growth l D cy κ g q0 kx v2 v4 v6) (cwV 3 hts g2_X10_growth rfl rfl rfl (by decide +kernel) ⟨Nat.le_of_ble_eq_true rfl, Nat.le_of_ble_eq_true rfl⟩) hK hT hS hκ kx (by decide) rfl rfl hl.1 rfl (Nat.le_of_ble_eq_true rfl) dL_law_272 hc (fun r7 u8 H locs hpu8 hT hS => ?_)
  refine lv_pop hx hb dL_law_275 rfl ?_
  refine lv_aload_n hx hb dL_law_276 rfl (lv_at hl 1 rfl) ?_
  refine lv_aload_n hx hb dL_law_277 rfl (lv_at hl 3 rfl) ?_
  refine lv_iload_n hx hb dL_law_278 rfl (lv_at hl 0 rfl) ?_
  refine lv_iconst (v := (1 : Int32)) hx hb dL_law_279 (by decide) ?_
  refine lv_iadd hx hb dL_law_280 ?_
  refine lv_topi (fun x99 ex99 => ?_)
  have tx99 : x99.toInt = x3.toInt + (1 : Int32).toInt := by rw [ex99]; exact ti_add (by omega)
  refine va_sld hx hb hX hbl hbA hS (vin (by omega)) dL_law_281 ?_
  refine lv_topi (fun v10 ev10 => ?_)
  obtain rfl : v2 = v10 := by rw [ev2, ev10, ex91, ex99]
  refine lv_aload_n hx hb dL_law_282 rfl (lv_at hl 3 rfl) ?_
  refine lv_iload_n hx hb dL_law_283 rfl (lv_at hl 0 rfl) ?_
  refine lv_iconst (v := (2 : Int32)) hx hb dL_law_284 (by decide) ?_
  refine lv_iadd hx hb dL_law_285 ?_
  refine lv_topi (fun x911 ex911 => ?_)
  have tx911 : x911.toInt = x3.toInt + (2 : Int32).toInt := by rw [ex911]; exact ti_add (by omega)
  refine va_sld hx hb hX hbl hbA hS (vin (by omega)) dL_law_286 ?_
  refine lv_topi (fun v12 ev12 => ?_)
  obtain rfl : v4 = v12 := by rw [ev4, ev12, ex93, ex911]
  refine lv_aload_n hx hb dL_law_287 rfl (lv_at hl 3 rfl) ?_
  refine lv_iload_n hx hb dL_law_288 rfl (lv_at hl 0 rfl) ?_
  refine lv_iconst (v := (3 : Int32)) hx hb dL_law_289 (by decide) ?_
  refine lv_iadd hx hb dL_law_290 ?_
  refine lv_topi (fun x913 ex913 => ?_)
  have tx913 : x913.toInt = x3.toInt + (3 : Int32).toInt := by rw [ex913]; exact ti_add (by omega)
  refine va_sld hx hb hX hbl hbA hS (vin (by omega)) dL_law_291 ?_
  refine lv_topi (fun v14 ev14 => ?_)
  obtain rfl : v6 = v14 := by rw [ev6, ev14, ex95, ex913]
  refine lw_Vi (q := (RX11, TX11, 31)) (As := [.int v2, .int v4, .int v6]) (rest := []) ⟨hx, hb, hml, hown, hts⟩ (c_X11_growth l D cy κ u8 q1 km v2 v4 v6) (cwV 3 hts g2_X11_growth rfl rfl rfl (by decide +kernel) ⟨Nat.le_of_ble_eq_true rfl, Nat.le_of_ble_eq_true rfl⟩) hK hT hS hκ km (by decide) rfl rfl hl.1 rfl (Nat.le_of_ble_eq_true rfl) dL_law_292 hc (fun r15 u16 H locs hpu16 hT hS => ?_)
  refine lv_pop hx hb dL_law_295 rfl ?_
  refine lv_goto (tgt := 1226) hx hb dL_law_296 (by decide) ?_
  exact kend u16 H locs (EQ.cnt (cntG.of hpu16.1) (EQ.cnt (cntG.of hpu8.1) hE)) hT hS
set_option maxHeartbeats 4000000 in
set_option maxRecDepth 100000 in
theorem law_c3 {p : Program} {l : Launch} {e : Env} {s : State} {m : MethodId} {below : List Frame} {meth : Method} {c : Code} {b L : Nat} {xs : Nat → Int32} {cells slots : Nat} {Q : State → Prop} {D : va_G} {cy : Nat → ClassId} {κ : Nat → Nat} {q0 q1 : Nat} (hx : p.tables.exec = Jvm.exec) (hb : c.code = cL_law) (hml : c.maxLocals = 4) (hown : s.vm.findClass RL = some m.cls) (hts : ∀ w ∈ lw_tbl, w.before #[Value.ref b] s = true) (hX : va_X b L xs s s.heap) (hbl : b < s.heap.size) (hK : KK D cy s) (kx : κ q0 = 11) (km : κ q1 = 12) (hκ : ∀ q, κ q ≠ 0 → (fun q : Nat => s.heap.size ≤ q) q) (hc : cells ≤ 600000 ∧ slots ≤ 7302250) {g : Gh} {H : Heap} {locs : List Loc} {ls : Array Slot} {x3 : Int32} (hE : EQ g) (hT : TW D cy κ g H) (hS : va_S (fun q : Nat => s.heap.size ≤ q) s.heap H locs) (hl : lv_has ls 4 [(3, .int x3), (2, .ref q1), (1, .ref q0), (0, .ref b)]) (h3 : 0 ≤ x3.toInt ∧ x3.toInt + 7 ≤ (L : Int)) (hL : L ≤ 3584) (kend : ∀ (g1 : Gh) (H1 : Heap) (locs1 : List Loc), EQ g1 → TW D cy κ g1 H1 → va_S (fun q : Nat => s.heap.size ≤ q) s.heap H1 locs1 → W p l e room_1 s m #[Value.ref b] below meth c H1 locs1 cells slots Q (F0 m 1226 ls [])) : W p l e room_1 s m #[Value.ref b] below meth c H locs cells slots Q (F0 m 299 ls []) := by
  have hbA : ¬ (fun q : Nat => s.heap.size ≤ q) b := Nat.not_le.mpr hbl
  refine lv_aload_n hx hb dL_law_299 rfl (lv_at hl 2 rfl) ?_
  refine lw_Vi (q := (RX10, TX10, 11)) (As := []) (rest := []) ⟨hx, hb, hml, hown, hts⟩ (c_X10_plate l D cy κ g q0 kx) (cwV 0 hts g2_X10_plate rfl rfl rfl (by decide +kernel) ⟨Nat.le_of_ble_eq_true rfl, Nat.le_of_ble_eq_true rfl⟩) hK hT hS hκ kx (by decide) rfl rfl hl.1 rfl (Nat.le_of_ble_eq_true rfl) dL_law_300 hc (fun r1 u2 H locs hpu2 hT hS => ?_)
  refine lv_pop hx hb dL_law_303 rfl ?_
  refine lv_aload_n hx hb dL_law_304 rfl (lv_at hl 1 rfl) ?_
  refine lw_Vi (q := (RX11, TX11, 31)) (As := []) (rest := []) ⟨hx, hb, hml, hown, hts⟩ (c_X11_plate l D cy κ u2 q1 km) (cwV 0 hts g2_X11_plate rfl rfl rfl (by decide +kernel) ⟨Nat.le_of_ble_eq_true rfl, Nat.le_of_ble_eq_true rfl⟩) hK hT hS hκ km (by decide) rfl rfl hl.1 rfl (Nat.le_of_ble_eq_true rfl) dL_law_305 hc (fun r3 u4 H locs hpu4 hT hS => ?_)
  refine lv_pop hx hb dL_law_308 rfl ?_
  refine lv_goto (tgt := 1226) hx hb dL_law_309 (by decide) ?_
  exact kend u4 H locs (eq_plate (z0 := 0) (g := g) (u := u2) (v := u4) (r := r1) (t := r3) hpu2 hpu4 hE).1 hT hS
set_option maxHeartbeats 4000000 in
set_option maxRecDepth 100000 in
theorem law_c4 {p : Program} {l : Launch} {e : Env} {s : State} {m : MethodId} {below : List Frame} {meth : Method} {c : Code} {b L : Nat} {xs : Nat → Int32} {cells slots : Nat} {Q : State → Prop} {D : va_G} {cy : Nat → ClassId} {κ : Nat → Nat} {q0 q1 : Nat} (hx : p.tables.exec = Jvm.exec) (hb : c.code = cL_law) (hml : c.maxLocals = 4) (hown : s.vm.findClass RL = some m.cls) (hts : ∀ w ∈ lw_tbl, w.before #[Value.ref b] s = true) (hX : va_X b L xs s s.heap) (hbl : b < s.heap.size) (hK : KK D cy s) (kx : κ q0 = 11) (km : κ q1 = 12) (hκ : ∀ q, κ q ≠ 0 → (fun q : Nat => s.heap.size ≤ q) q) (hc : cells ≤ 600000 ∧ slots ≤ 7302250) {g : Gh} {H : Heap} {locs : List Loc} {ls : Array Slot} {x3 : Int32} (hE : EQ g) (hT : TW D cy κ g H) (hS : va_S (fun q : Nat => s.heap.size ≤ q) s.heap H locs) (hl : lv_has ls 4 [(3, .int x3), (2, .ref q1), (1, .ref q0), (0, .ref b)]) (h3 : 0 ≤ x3.toInt ∧ x3.toInt + 7 ≤ (L : Int)) (hL : L ≤ 3584) (kend : ∀ (g1 : Gh) (H1 : Heap) (locs1 : List Loc), EQ g1 → TW D cy κ g1 H1 → va_S (fun q : Nat => s.heap.size ≤ q) s.heap H1 locs1 → W p l e room_1 s m #[Value.ref b] below meth c H1 locs1 cells slots Q (F0 m 1226 ls [])) : W p l e room_1 s m #[Value.ref b] below meth c H locs cells slots Q (F0 m 312 ls []) := by
  have hbA : ¬ (fun q : Nat => s.heap.size ≤ q) b := Nat.not_le.mpr hbl
  have hc1 : (1 : Int32).toInt = 1 := rfl
  have hc2 : (2 : Int32).toInt = 2 := rfl
  have hc3 : (3 : Int32).toInt = 3 := rfl
  have hc4 : (4 : Int32).toInt = 4 := rfl
  refine lv_aload_n hx hb dL_law_312 rfl (lv_at hl 2 rfl) ?_
  refine lv_aload_n hx hb dL_law_313 rfl (lv_at hl 3 rfl) ?_
  refine lv_iload_n hx hb dL_law_314 rfl (lv_at hl 0 rfl) ?_
  refine lv_iconst (v := (1 : Int32)) hx hb dL_law_315 (by decide) ?_
  refine lv_iadd hx hb dL_law_316 ?_
  refine lv_topi (fun x91 ex91 => ?_)
  have tx91 : x91.toInt = x3.toInt + (1 : Int32).toInt := by rw [ex91]; exact ti_add (by omega)
  refine va_sld hx hb hX hbl hbA hS (vin (by omega)) dL_law_317 ?_
  refine lv_topi (fun v2 ev2 => ?_)
  refine lv_aload_n hx hb dL_law_318 rfl (lv_at hl 3 rfl) ?_
  refine lv_iload_n hx hb dL_law_319 rfl (lv_at hl 0 rfl) ?_
  refine lv_iconst (v := (2 : Int32)) hx hb dL_law_320 (by decide) ?_
  refine lv_iadd hx hb dL_law_321 ?_
  refine lv_topi (fun x93 ex93 => ?_)
  have tx93 : x93.toInt = x3.toInt + (2 : Int32).toInt := by rw [ex93]; exact ti_add (by omega)
  refine va_sld hx hb hX hbl hbA hS (vin (by omega)) dL_law_322 ?_
  refine lv_topi (fun v4 ev4 => ?_)
  refine lv_aload_n hx hb dL_law_323 rfl (lv_at hl 3 rfl) ?_
  refine lv_iload_n hx hb dL_law_324 rfl (lv_at hl 0 rfl) ?_
  refine lv_iconst (v := (3 : Int32)) hx hb dL_law_325 (by decide) ?_
  refine lv_iadd hx hb dL_law_326 ?_
  refine lv_topi (fun x95 ex95 => ?_)
  have tx95 : x95.toInt = x3.toInt + (3 : Int32).toInt := by rw [ex95]; exact ti_add (by omega)
  refine va_sld hx hb hX hbl hbA hS (vin (by omega)) dL_law_327 ?_
  refine lv_topi (fun v6 ev6 => ?_)
  refine lv_aload_n hx hb dL_law_328 rfl (lv_at hl 3 rfl) ?_
  refine lv_iload_n hx hb dL_law_329 rfl (lv_at hl 0 rfl) ?_
  refine lv_iconst (v := (4 : Int32)) hx hb dL_law_330 (by decide) ?_
  refine lv_iadd hx hb dL_law_331 ?_
  refine lv_topi (fun x97 ex97 => ?_)
  have tx97 : x97.toInt = x3.toInt + (4 : Int32).toInt := by rw [ex97]; exact ti_add (by omega)
  refine va_sld hx hb hX hbl hbA hS (vin (by omega)) dL_law_332 ?_
  refine lv_topi (fun v8 ev8 => ?_)
  refine lw_Vi (q := (RX10, TX10, 11)) (As := [.int v2, .int v4, .int v6, .int v8]) (rest := []) ⟨hx, hb, hml, hown, hts⟩ (c_X10_lay l D cy κ g q0 kx v2 v4 v6 v8) (cwV 4 hts g2_X10_lay rfl rfl rfl (by decide +kernel) ⟨Nat.le_of_ble_eq_true rfl, Nat.le_of_ble_eq_true rfl⟩) hK hT hS hκ kx (by decide) rfl rfl hl.1 rfl (Nat.le_of_ble_eq_true rfl) dL_law_333 hc (fun r9 u10 H locs hpu10 hT hS => ?_)
  refine lv_pop hx hb dL_law_336 rfl ?_
  refine lv_aload_n hx hb dL_law_337 rfl (lv_at hl 1 rfl) ?_
  refine lv_aload_n hx hb dL_law_338 rfl (lv_at hl 3 rfl) ?_
  refine lv_iload_n hx hb dL_law_339 rfl (lv_at hl 0 rfl) ?_
  refine lv_iconst (v := (1 : Int32)) hx hb dL_law_340 (by decide) ?_
  refine lv_iadd hx hb dL_law_341 ?_
  refine lv_topi (fun x911 ex911 => ?_)
  have tx911 : x911.toInt = x3.toInt + (1 : Int32).toInt := by rw [ex911]; exact ti_add (by omega)
  refine va_sld hx hb hX hbl hbA hS (vin (by omega)) dL_law_342 ?_
  refine lv_topi (fun v12 ev12 => ?_)
  obtain rfl : v2 = v12 := by rw [ev2, ev12, ex91, ex911]
  refine lv_aload_n hx hb dL_law_343 rfl (lv_at hl 3 rfl) ?_
  refine lv_iload_n hx hb dL_law_344 rfl (lv_at hl 0 rfl) ?_
  refine lv_iconst (v := (2 : Int32)) hx hb dL_law_345 (by decide) ?_
  refine lv_iadd hx hb dL_law_346 ?_
  refine lv_topi (fun x913 ex913 => ?_)
  have tx913 : x913.toInt = x3.toInt + (2 : Int32).toInt := by rw [ex913]; exact ti_add (by omega)
  refine va_sld hx hb hX hbl hbA hS (vin (by omega)) dL_law_347 ?_
  refine lv_topi (fun v14 ev14 => ?_)
  obtain rfl : v4 = v14 := by rw [ev4, ev14, ex93, ex913]
  refine lv_aload_n hx hb dL_law_348 rfl (lv_at hl 3 rfl) ?_
  refine lv_iload_n hx hb dL_law_349 rfl (lv_at hl 0 rfl) ?_
  refine lv_iconst (v := (3 : Int32)) hx hb dL_law_350 (by decide) ?_
  refine lv_iadd hx hb dL_law_351 ?_
  refine lv_topi (fun x915 ex915 => ?_)
  have tx915 : x915.toInt = x3.toInt + (3 : Int32).toInt := by rw [ex915]; exact ti_add (by omega)
  refine va_sld hx hb hX hbl hbA hS (vin (by omega)) dL_law_352 ?_
  refine lv_topi (fun v16 ev16 => ?_)
  obtain rfl : v6 = v16 := by rw [ev6, ev16, ex95, ex915]
  refine lv_aload_n hx hb dL_law_353 rfl (lv_at hl 3 rfl) ?_
  refine lv_iload_n hx hb dL_law_354 rfl (lv_at hl 0 rfl) ?_
  refine lv_iconst (v := (4 : Int32)) hx hb dL_law_355 (by decide) ?_
  refine lv_iadd hx hb dL_law_356 ?_
  refine lv_topi (fun x917 ex917 => ?_)
  have tx917 : x917.toInt = x3.toInt + (4 : Int32).toInt := by rw [ex917]; exact ti_add (by omega)
  refine va_sld hx hb hX hbl hbA hS (vin (by omega)) dL_law_357 ?_
  refine lv_topi (fun v18 ev18 => ?_)
  obtain rfl : v8 = v18 := by rw [ev8, ev18, ex97, ex917]
  refine lw_Vi (q := (RX11, TX11, 31)) (As := [.int v2, .int v4, .int v6, .int v8]) (rest := []) ⟨hx, hb, hml, hown, hts⟩ (c_X11_lay l D cy κ u10 q1 km v2 v4 v6 v8) (cwV 4 hts g2_X11_lay rfl rfl rfl (by decide +kernel) ⟨Nat.le_of_ble_eq_true rfl, Nat.le_of_ble_eq_true rfl⟩) hK hT hS hκ km (by decide) rfl rfl hl.1 rfl (Nat.le_of_ble_eq_true rfl) dL_law_358 hc (fun r19 u20 H locs hpu20 hT hS => ?_)
  refine lv_pop hx hb dL_law_361 rfl ?_
  refine lv_goto (tgt := 1226) hx hb dL_law_362 (by decide) ?_
  exact kend u20 H locs (EQ.cnt hpu20.1 (EQ.cnt hpu10.1.cnt hE)) hT hS
set_option maxHeartbeats 4000000 in
set_option maxRecDepth 100000 in
theorem law_c5 {p : Program} {l : Launch} {e : Env} {s : State} {m : MethodId} {below : List Frame} {meth : Method} {c : Code} {b L : Nat} {xs : Nat → Int32} {cells slots : Nat} {Q : State → Prop} {D : va_G} {cy : Nat → ClassId} {κ : Nat → Nat} {q0 q1 : Nat} (hx : p.tables.exec = Jvm.exec) (hb : c.code = cL_law) (hml : c.maxLocals = 4) (hown : s.vm.findClass RL = some m.cls) (hts : ∀ w ∈ lw_tbl, w.before #[Value.ref b] s = true) (hX : va_X b L xs s s.heap) (hbl : b < s.heap.size) (hK : KK D cy s) (kx : κ q0 = 11) (km : κ q1 = 12) (hκ : ∀ q, κ q ≠ 0 → (fun q : Nat => s.heap.size ≤ q) q) (hc : cells ≤ 600000 ∧ slots ≤ 7302250) {g : Gh} {H : Heap} {locs : List Loc} {ls : Array Slot} {x3 : Int32} (hE : EQ g) (hT : TW D cy κ g H) (hS : va_S (fun q : Nat => s.heap.size ≤ q) s.heap H locs) (hl : lv_has ls 4 [(3, .int x3), (2, .ref q1), (1, .ref q0), (0, .ref b)]) (h3 : 0 ≤ x3.toInt ∧ x3.toInt + 7 ≤ (L : Int)) (hL : L ≤ 3584) (kend : ∀ (g1 : Gh) (H1 : Heap) (locs1 : List Loc), EQ g1 → TW D cy κ g1 H1 → va_S (fun q : Nat => s.heap.size ≤ q) s.heap H1 locs1 → W p l e room_1 s m #[Value.ref b] below meth c H1 locs1 cells slots Q (F0 m 1226 ls [])) : W p l e room_1 s m #[Value.ref b] below meth c H locs cells slots Q (F0 m 365 ls []) := by
  have hbA : ¬ (fun q : Nat => s.heap.size ≤ q) b := Nat.not_le.mpr hbl
  have hc1 : (1 : Int32).toInt = 1 := rfl
  refine lv_aload_n hx hb dL_law_365 rfl (lv_at hl 2 rfl) ?_
  refine lv_aload_n hx hb dL_law_366 rfl (lv_at hl 3 rfl) ?_
  refine lv_iload_n hx hb dL_law_367 rfl (lv_at hl 0 rfl) ?_
  refine lv_iconst (v := (1 : Int32)) hx hb dL_law_368 (by decide) ?_
  refine lv_iadd hx hb dL_law_369 ?_
  refine lv_topi (fun x91 ex91 => ?_)
  have tx91 : x91.toInt = x3.toInt + (1 : Int32).toInt := by rw [ex91]; exact ti_add (by omega)
  refine va_sld hx hb hX hbl hbA hS (vin (by omega)) dL_law_370 ?_
  refine lv_topi (fun v2 ev2 => ?_)
  refine lw_Vi (q := (RX10, TX10, 11)) (As := [.int v2]) (rest := []) ⟨hx, hb, hml, hown, hts⟩ (c_X10_peel l D cy κ g q0 kx v2) (cwV 1 hts g2_X10_peel rfl rfl rfl (by decide +kernel) ⟨Nat.le_of_ble_eq_true rfl, Nat.le_of_ble_eq_true rfl⟩) hK hT hS hκ kx (by decide) rfl rfl hl.1 rfl (Nat.le_of_ble_eq_true rfl) dL_law_371 hc (fun r3 u4 H locs hpu4 hT hS => ?_)
  refine lv_pop hx hb dL_law_374 rfl ?_
  refine lv_aload_n hx hb dL_law_375 rfl (lv_at hl 1 rfl) ?_
  refine lv_aload_n hx hb dL_law_376 rfl (lv_at hl 3 rfl) ?_
  refine lv_iload_n hx hb dL_law_377 rfl (lv_at hl 0 rfl) ?_
  refine lv_iconst (v := (1 : Int32)) hx hb dL_law_378 (by decide) ?_
  refine lv_iadd hx hb dL_law_379 ?_
  refine lv_topi (fun x95 ex95 => ?_)
  have tx95 : x95.toInt = x3.toInt + (1 : Int32).toInt := by rw [ex95]; exact ti_add (by omega)
  refine va_sld hx hb hX hbl hbA hS (vin (by omega)) dL_law_380 ?_
  refine lv_topi (fun v6 ev6 => ?_)
  obtain rfl : v2 = v6 := by rw [ev2, ev6, ex91, ex95]
  refine lw_Vi (q := (RX11, TX11, 31)) (As := [.int v2]) (rest := []) ⟨hx, hb, hml, hown, hts⟩ (c_X11_peel l D cy κ u4 q1 km v2) (cwV 1 hts g2_X11_peel rfl rfl rfl (by decide +kernel) ⟨Nat.le_of_ble_eq_true rfl, Nat.le_of_ble_eq_true rfl⟩) hK hT hS hκ km (by decide) rfl rfl hl.1 rfl (Nat.le_of_ble_eq_true rfl) dL_law_381 hc (fun r7 u8 H locs hpu8 hT hS => ?_)
  refine lv_pop hx hb dL_law_384 rfl ?_
  refine lv_goto (tgt := 1226) hx hb dL_law_385 (by decide) ?_
  exact kend u8 H locs (EQ.cnt hpu8.1 (EQ.cnt hpu4.1.cnt hE)) hT hS
set_option maxHeartbeats 4000000 in
set_option maxRecDepth 100000 in
theorem law_c6 {p : Program} {l : Launch} {e : Env} {s : State} {m : MethodId} {below : List Frame} {meth : Method} {c : Code} {b L : Nat} {xs : Nat → Int32} {cells slots : Nat} {Q : State → Prop} {D : va_G} {cy : Nat → ClassId} {κ : Nat → Nat} {q0 q1 : Nat} (hx : p.tables.exec = Jvm.exec) (hb : c.code = cL_law) (hml : c.maxLocals = 4) (hown : s.vm.findClass RL = some m.cls) (hts : ∀ w ∈ lw_tbl, w.before #[Value.ref b] s = true) (hX : va_X b L xs s s.heap) (hbl : b < s.heap.size) (hK : KK D cy s) (kx : κ q0 = 11) (km : κ q1 = 12) (hκ : ∀ q, κ q ≠ 0 → (fun q : Nat => s.heap.size ≤ q) q) (hc : cells ≤ 600000 ∧ slots ≤ 7302250) {g : Gh} {H : Heap} {locs : List Loc} {ls : Array Slot} {x3 : Int32} (hE : EQ g) (hT : TW D cy κ g H) (hS : va_S (fun q : Nat => s.heap.size ≤ q) s.heap H locs) (hl : lv_has ls 4 [(3, .int x3), (2, .ref q1), (1, .ref q0), (0, .ref b)]) (h3 : 0 ≤ x3.toInt ∧ x3.toInt + 7 ≤ (L : Int)) (hL : L ≤ 3584) (kend : ∀ (g1 : Gh) (H1 : Heap) (locs1 : List Loc), EQ g1 → TW D cy κ g1 H1 → va_S (fun q : Nat => s.heap.size ≤ q) s.heap H1 locs1 → W p l e room_1 s m #[Value.ref b] below meth c H1 locs1 cells slots Q (F0 m 1226 ls [])) : W p l e room_1 s m #[Value.ref b] below meth c H locs cells slots Q (F0 m 388 ls []) := by
  have hbA : ¬ (fun q : Nat => s.heap.size ≤ q) b := Nat.not_le.mpr hbl
  have hc1 : (1 : Int32).toInt = 1 := rfl
  have hc2 : (2 : Int32).toInt = 2 := rfl
  have hc3 : (3 : Int32).toInt = 3 := rfl
  refine lv_aload_n hx hb dL_law_388 rfl (lv_at hl 2 rfl) ?_
  refine lv_aload_n hx hb dL_law_389 rfl (lv_at hl 3 rfl) ?_
  refine lv_iload_n hx hb dL_law_390 rfl (lv_at hl 0 rfl) ?_
  refine lv_iconst (v := (1 : Int32)) hx hb dL_law_391 (by decide) ?_
  refine lv_iadd hx hb dL_law_392 ?_
  refine lv_topi (fun x91 ex91 => ?_)
  have tx91 : x91.toInt = x3.toInt + (1 : Int32).toInt := by rw [ex91]; exact ti_add (by omega)
  refine va_sld hx hb hX hbl hbA hS (vin (by omega)) dL_law_393 ?_
  refine lv_topi (fun v2 ev2 => ?_)
  refine lv_aload_n hx hb dL_law_394 rfl (lv_at hl 3 rfl) ?_
  refine lv_iload_n hx hb dL_law_395 rfl (lv_at hl 0 rfl) ?_
  refine lv_iconst (v := (2 : Int32)) hx hb dL_law_396 (by decide) ?_
  refine lv_iadd hx hb dL_law_397 ?_
  refine lv_topi (fun x93 ex93 => ?_)
  have tx93 : x93.toInt = x3.toInt + (2 : Int32).toInt := by rw [ex93]; exact ti_add (by omega)
  refine va_sld hx hb hX hbl hbA hS (vin (by omega)) dL_law_398 ?_
  refine lv_topi (fun v4 ev4 => ?_)
  refine lv_aload_n hx hb dL_law_399 rfl (lv_at hl 3 rfl) ?_
  refine lv_iload_n hx hb dL_law_400 rfl (lv_at hl 0 rfl) ?_
  refine lv_iconst (v := (3 : Int32)) hx hb dL_law_401 (by decide) ?_
  refine lv_iadd hx hb dL_law_402 ?_
  refine lv_topi (fun x95 ex95 => ?_)
  have tx95 : x95.toInt = x3.toInt + (3 : Int32).toInt := by rw [ex95]; exact ti_add (by omega)
  refine va_sld hx hb hX hbl hbA hS (vin (by omega)) dL_law_403 ?_
  refine lv_topi (fun v6 ev6 => ?_)
  refine lw_Vi (q := (RX10, TX10, 11)) (As := [.int v2, .int v4, .int v6]) (rest := []) ⟨hx, hb, hml, hown, hts⟩ (c_X10_hurt l D cy κ g q0 kx v2 v4 v6) (cwV 3 hts g2_X10_hurt rfl rfl rfl (by decide +kernel) ⟨Nat.le_of_ble_eq_true rfl, Nat.le_of_ble_eq_true rfl⟩) hK hT hS hκ kx (by decide) rfl rfl hl.1 rfl (Nat.le_of_ble_eq_true rfl) dL_law_404 hc (fun r7 u8 H locs hpu8 hT hS => ?_)
  refine lv_pop hx hb dL_law_407 rfl ?_
  refine lv_aload_n hx hb dL_law_408 rfl (lv_at hl 1 rfl) ?_
  refine lv_aload_n hx hb dL_law_409 rfl (lv_at hl 3 rfl) ?_
  refine lv_iload_n hx hb dL_law_410 rfl (lv_at hl 0 rfl) ?_
  refine lv_iconst (v := (1 : Int32)) hx hb dL_law_411 (by decide) ?_
  refine lv_iadd hx hb dL_law_412 ?_
  refine lv_topi (fun x99 ex99 => ?_)
  have tx99 : x99.toInt = x3.toInt + (1 : Int32).toInt := by rw [ex99]; exact ti_add (by omega)
  refine va_sld hx hb hX hbl hbA hS (vin (by omega)) dL_law_413 ?_
  refine lv_topi (fun v10 ev10 => ?_)
  obtain rfl : v2 = v10 := by rw [ev2, ev10, ex91, ex99]
  refine lv_aload_n hx hb dL_law_414 rfl (lv_at hl 3 rfl) ?_
  refine lv_iload_n hx hb dL_law_415 rfl (lv_at hl 0 rfl) ?_
  refine lv_iconst (v := (2 : Int32)) hx hb dL_law_416 (by decide) ?_
  refine lv_iadd hx hb dL_law_417 ?_
  refine lv_topi (fun x911 ex911 => ?_)
  have tx911 : x911.toInt = x3.toInt + (2 : Int32).toInt := by rw [ex911]; exact ti_add (by omega)
  refine va_sld hx hb hX hbl hbA hS (vin (by omega)) dL_law_418 ?_
  refine lv_topi (fun v12 ev12 => ?_)
  obtain rfl : v4 = v12 := by rw [ev4, ev12, ex93, ex911]
  refine lv_aload_n hx hb dL_law_419 rfl (lv_at hl 3 rfl) ?_
  refine lv_iload_n hx hb dL_law_420 rfl (lv_at hl 0 rfl) ?_
  refine lv_iconst (v := (3 : Int32)) hx hb dL_law_421 (by decide) ?_
  refine lv_iadd hx hb dL_law_422 ?_
  refine lv_topi (fun x913 ex913 => ?_)
  have tx913 : x913.toInt = x3.toInt + (3 : Int32).toInt := by rw [ex913]; exact ti_add (by omega)
  refine va_sld hx hb hX hbl hbA hS (vin (by omega)) dL_law_423 ?_
  refine lv_topi (fun v14 ev14 => ?_)
  obtain rfl : v6 = v14 := by rw [ev6, ev14, ex95, ex913]
  refine lw_Vi (q := (RX11, TX11, 31)) (As := [.int v2, .int v4, .int v6]) (rest := []) ⟨hx, hb, hml, hown, hts⟩ (c_X11_hurt l D cy κ u8 q1 km v2 v4 v6) (cwV 3 hts g2_X11_hurt rfl rfl rfl (by decide +kernel) ⟨Nat.le_of_ble_eq_true rfl, Nat.le_of_ble_eq_true rfl⟩) hK hT hS hκ km (by decide) rfl rfl hl.1 rfl (Nat.le_of_ble_eq_true rfl) dL_law_424 hc (fun r15 u16 H locs hpu16 hT hS => ?_)
  refine lv_pop hx hb dL_law_427 rfl ?_
  refine lv_goto (tgt := 1226) hx hb dL_law_428 (by decide) ?_
  exact kend u16 H locs (EQ.cnt hpu16.1 (EQ.cnt (cntG.of hpu8.1) hE)) hT hS
set_option maxHeartbeats 4000000 in
set_option maxRecDepth 100000 in
theorem law_c7 {p : Program} {l : Launch} {e : Env} {s : State} {m : MethodId} {below : List Frame} {meth : Method} {c : Code} {b L : Nat} {xs : Nat → Int32} {cells slots : Nat} {Q : State → Prop} {D : va_G} {cy : Nat → ClassId} {κ : Nat → Nat} {q0 q1 : Nat} (hx : p.tables.exec = Jvm.exec) (hb : c.code = cL_law) (hml : c.maxLocals = 4) (hown : s.vm.findClass RL = some m.cls) (hts : ∀ w ∈ lw_tbl, w.before #[Value.ref b] s = true) (hX : va_X b L xs s s.heap) (hbl : b < s.heap.size) (hK : KK D cy s) (kx : κ q0 = 11) (km : κ q1 = 12) (hκ : ∀ q, κ q ≠ 0 → (fun q : Nat => s.heap.size ≤ q) q) (hc : cells ≤ 600000 ∧ slots ≤ 7302250) {g : Gh} {H : Heap} {locs : List Loc} {ls : Array Slot} {x3 : Int32} (hE : EQ g) (hT : TW D cy κ g H) (hS : va_S (fun q : Nat => s.heap.size ≤ q) s.heap H locs) (hl : lv_has ls 4 [(3, .int x3), (2, .ref q1), (1, .ref q0), (0, .ref b)]) (h3 : 0 ≤ x3.toInt ∧ x3.toInt + 7 ≤ (L : Int)) (hL : L ≤ 3584) (kend : ∀ (g1 : Gh) (H1 : Heap) (locs1 : List Loc), EQ g1 → TW D cy κ g1 H1 → va_S (fun q : Nat => s.heap.size ≤ q) s.heap H1 locs1 → W p l e room_1 s m #[Value.ref b] below meth c H1 locs1 cells slots Q (F0 m 1226 ls [])) : W p l e room_1 s m #[Value.ref b] below meth c H locs cells slots Q (F0 m 431 ls []) := by
  have hbA : ¬ (fun q : Nat => s.heap.size ≤ q) b := Nat.not_le.mpr hbl
  have hc1 : (1 : Int32).toInt = 1 := rfl
  have hc2 : (2 : Int32).toInt = 2 := rfl
  have hc3 : (3 : Int32).toInt = 3 := rfl
  refine lv_aload_n hx hb dL_law_431 rfl (lv_at hl 2 rfl) ?_
  refine lv_aload_n hx hb dL_law_432 rfl (lv_at hl 3 rfl) ?_
  refine lv_iload_n hx hb dL_law_433 rfl (lv_at hl 0 rfl) ?_
  refine lv_iconst (v := (1 : Int32)) hx hb dL_law_434 (by decide) ?_
  refine lv_iadd hx hb dL_law_435 ?_
  refine lv_topi (fun x91 ex91 => ?_)
  have tx91 : x91.toInt = x3.toInt + (1 : Int32).toInt := by rw [ex91]; exact ti_add (by omega)
  refine va_sld hx hb hX hbl hbA hS (vin (by omega)) dL_law_436 ?_
  refine lv_topi (fun v2 ev2 => ?_)
  refine lv_aload_n hx hb dL_law_437 rfl (lv_at hl 3 rfl) ?_
  refine lv_iload_n hx hb dL_law_438 rfl (lv_at hl 0 rfl) ?_
  refine lv_iconst (v := (2 : Int32)) hx hb dL_law_439 (by decide) ?_
  refine lv_iadd hx hb dL_law_440 ?_
  refine lv_topi (fun x93 ex93 => ?_)
  have tx93 : x93.toInt = x3.toInt + (2 : Int32).toInt := by rw [ex93]; exact ti_add (by omega)
  refine va_sld hx hb hX hbl hbA hS (vin (by omega)) dL_law_441 ?_
  refine lv_topi (fun v4 ev4 => ?_)
  refine lv_aload_n hx hb dL_law_442 rfl (lv_at hl 3 rfl) ?_
  refine lv_iload_n hx hb dL_law_443 rfl (lv_at hl 0 rfl) ?_
  refine lv_iconst (v := (3 : Int32)) hx hb dL_law_444 (by decide) ?_
  refine lv_iadd hx hb dL_law_445 ?_
  refine lv_topi (fun x95 ex95 => ?_)
  have tx95 : x95.toInt = x3.toInt + (3 : Int32).toInt := by rw [ex95]; exact ti_add (by omega)
  refine va_sld hx hb hX hbl hbA hS (vin (by omega)) dL_law_446 ?_
  refine lv_topi (fun v6 ev6 => ?_)
  refine lw_Vi (q := (RX10, TX10, 11)) (As := [.int v2, .int v4, .int v6]) (rest := []) ⟨hx, hb, hml, hown, hts⟩ (c_X10_layer l D cy κ g q0 kx v2 v4 v6) (cwV 3 hts g2_X10_layer rfl rfl rfl (by decide +kernel) ⟨Nat.le_of_ble_eq_true rfl, Nat.le_of_ble_eq_true rfl⟩) hK hT hS hκ kx (by decide) rfl rfl hl.1 rfl (Nat.le_of_ble_eq_true rfl) dL_law_447 hc (fun r7 u8 H locs hpu8 hT hS => ?_)
  refine lv_pop hx hb dL_law_450 rfl ?_
  refine lv_aload_n hx hb dL_law_451 rfl (lv_at hl 1 rfl) ?_
  refine lv_aload_n hx hb dL_law_452 rfl (lv_at hl 3 rfl) ?_
  refine lv_iload_n hx hb dL_law_453 rfl (lv_at hl 0 rfl) ?_
  refine lv_iconst (v := (1 : Int32)) hx hb dL_law_454 (by decide) ?_
  refine lv_iadd hx hb dL_law_455 ?_
  refine lv_topi (fun x99 ex99 => ?_)
  have tx99 : x99.toInt = x3.toInt + (1 : Int32).toInt := by rw [ex99]; exact ti_add (by omega)
  refine va_sld hx hb hX hbl hbA hS (vin (by omega)) dL_law_456 ?_
  refine lv_topi (fun v10 ev10 => ?_)
  obtain rfl : v2 = v10 := by rw [ev2, ev10, ex91, ex99]
  refine lv_aload_n hx hb dL_law_457 rfl (lv_at hl 3 rfl) ?_
  refine lv_iload_n hx hb dL_law_458 rfl (lv_at hl 0 rfl) ?_
  refine lv_iconst (v := (2 : Int32)) hx hb dL_law_459 (by decide) ?_
  refine lv_iadd hx hb dL_law_460 ?_
  refine lv_topi (fun x911 ex911 => ?_)
  have tx911 : x911.toInt = x3.toInt + (2 : Int32).toInt := by rw [ex911]; exact ti_add (by omega)
  refine va_sld hx hb hX hbl hbA hS (vin (by omega)) dL_law_461 ?_
  refine lv_topi (fun v12 ev12 => ?_)
  obtain rfl : v4 = v12 := by rw [ev4, ev12, ex93, ex911]
  refine lv_aload_n hx hb dL_law_462 rfl (lv_at hl 3 rfl) ?_
  refine lv_iload_n hx hb dL_law_463 rfl (lv_at hl 0 rfl) ?_
  refine lv_iconst (v := (3 : Int32)) hx hb dL_law_464 (by decide) ?_
  refine lv_iadd hx hb dL_law_465 ?_
  refine lv_topi (fun x913 ex913 => ?_)
  have tx913 : x913.toInt = x3.toInt + (3 : Int32).toInt := by rw [ex913]; exact ti_add (by omega)
  refine va_sld hx hb hX hbl hbA hS (vin (by omega)) dL_law_466 ?_
  refine lv_topi (fun v14 ev14 => ?_)
  obtain rfl : v6 = v14 := by rw [ev6, ev14, ex95, ex913]
  refine lw_Vi (q := (RX11, TX11, 31)) (As := [.int v2, .int v4, .int v6]) (rest := []) ⟨hx, hb, hml, hown, hts⟩ (c_X11_layer l D cy κ u8 q1 km v2 v4 v6) (cwV 3 hts g2_X11_layer rfl rfl rfl (by decide +kernel) ⟨Nat.le_of_ble_eq_true rfl, Nat.le_of_ble_eq_true rfl⟩) hK hT hS hκ km (by decide) rfl rfl hl.1 rfl (Nat.le_of_ble_eq_true rfl) dL_law_467 hc (fun r15 u16 H locs hpu16 hT hS => ?_)
  refine lv_pop hx hb dL_law_470 rfl ?_
  refine lv_goto (tgt := 1226) hx hb dL_law_471 (by decide) ?_
  exact kend u16 H locs (EQ.cnt (cntG.of hpu16.1) (EQ.cnt (cntG.of hpu8.1) hE)) hT hS
set_option maxHeartbeats 4000000 in
set_option maxRecDepth 100000 in
theorem law_c8 {p : Program} {l : Launch} {e : Env} {s : State} {m : MethodId} {below : List Frame} {meth : Method} {c : Code} {b L : Nat} {xs : Nat → Int32} {cells slots : Nat} {Q : State → Prop} {D : va_G} {cy : Nat → ClassId} {κ : Nat → Nat} {q0 q1 : Nat} (hx : p.tables.exec = Jvm.exec) (hb : c.code = cL_law) (hml : c.maxLocals = 4) (hown : s.vm.findClass RL = some m.cls) (hts : ∀ w ∈ lw_tbl, w.before #[Value.ref b] s = true) (hX : va_X b L xs s s.heap) (hbl : b < s.heap.size) (hK : KK D cy s) (kx : κ q0 = 11) (km : κ q1 = 12) (hκ : ∀ q, κ q ≠ 0 → (fun q : Nat => s.heap.size ≤ q) q) (hc : cells ≤ 600000 ∧ slots ≤ 7302250) {g : Gh} {H : Heap} {locs : List Loc} {ls : Array Slot} {x3 : Int32} (hE : EQ g) (hT : TW D cy κ g H) (hS : va_S (fun q : Nat => s.heap.size ≤ q) s.heap H locs) (hl : lv_has ls 4 [(3, .int x3), (2, .ref q1), (1, .ref q0), (0, .ref b)]) (h3 : 0 ≤ x3.toInt ∧ x3.toInt + 7 ≤ (L : Int)) (hL : L ≤ 3584) (kend : ∀ (g1 : Gh) (H1 : Heap) (locs1 : List Loc), EQ g1 → TW D cy κ g1 H1 → va_S (fun q : Nat => s.heap.size ≤ q) s.heap H1 locs1 → W p l e room_1 s m #[Value.ref b] below meth c H1 locs1 cells slots Q (F0 m 1226 ls [])) : W p l e room_1 s m #[Value.ref b] below meth c H locs cells slots Q (F0 m 474 ls []) := by
  have hbA : ¬ (fun q : Nat => s.heap.size ≤ q) b := Nat.not_le.mpr hbl
  have hc1 : (1 : Int32).toInt = 1 := rfl
  have hc2 : (2 : Int32).toInt = 2 := rfl
  have hc3 : (3 : Int32).toInt = 3 := rfl
  refine lv_aload_n hx hb dL_law_474 rfl (lv_at hl 2 rfl) ?_
  refine lv_aload_n hx hb dL_law_475 rfl (lv_at hl 3 rfl) ?_
  refine lv_iload_n hx hb dL_law_476 rfl (lv_at hl 0 rfl) ?_
  refine lv_iconst (v := (1 : Int32)) hx hb dL_law_477 (by decide) ?_
  refine lv_iadd hx hb dL_law_478 ?_
  refine lv_topi (fun x91 ex91 => ?_)
  have tx91 : x91.toInt = x3.toInt + (1 : Int32).toInt := by rw [ex91]; exact ti_add (by omega)
  refine va_sld hx hb hX hbl hbA hS (vin (by omega)) dL_law_479 ?_
  refine lv_topi (fun v2 ev2 => ?_)
  refine lv_aload_n hx hb dL_law_480 rfl (lv_at hl 3 rfl) ?_
  refine lv_iload_n hx hb dL_law_481 rfl (lv_at hl 0 rfl) ?_
  refine lv_iconst (v := (2 : Int32)) hx hb dL_law_482 (by decide) ?_
  refine lv_iadd hx hb dL_law_483 ?_
  refine lv_topi (fun x93 ex93 => ?_)
  have tx93 : x93.toInt = x3.toInt + (2 : Int32).toInt := by rw [ex93]; exact ti_add (by omega)
  refine va_sld hx hb hX hbl hbA hS (vin (by omega)) dL_law_484 ?_
  refine lv_topi (fun v4 ev4 => ?_)
  refine lv_aload_n hx hb dL_law_485 rfl (lv_at hl 3 rfl) ?_
  refine lv_iload_n hx hb dL_law_486 rfl (lv_at hl 0 rfl) ?_
  refine lv_iconst (v := (3 : Int32)) hx hb dL_law_487 (by decide) ?_
  refine lv_iadd hx hb dL_law_488 ?_
  refine lv_topi (fun x95 ex95 => ?_)
  have tx95 : x95.toInt = x3.toInt + (3 : Int32).toInt := by rw [ex95]; exact ti_add (by omega)
  refine va_sld hx hb hX hbl hbA hS (vin (by omega)) dL_law_489 ?_
  refine lv_topi (fun v6 ev6 => ?_)
  refine lw_Vl (q := (RX10, TX10, 11)) (As := [.int v2, .int v4, .int v6]) (rest := []) ⟨hx, hb, hml, hown, hts⟩ (c_X10_table l D cy κ g q0 kx v2 v4 v6) (cwV 3 hts g2_X10_table rfl rfl rfl (by decide +kernel) ⟨Nat.le_of_ble_eq_true rfl, Nat.le_of_ble_eq_true rfl⟩) hK hT hS hκ kx (by decide) rfl rfl hl.1 rfl (Nat.le_of_ble_eq_true rfl) dL_law_490 hc (fun r7 u8 H locs hpu8 hT hS => ?_)
  refine lv_pop2_2 hx hb dL_law_493 rfl ?_
  refine lv_aload_n hx hb dL_law_494 rfl (lv_at hl 1 rfl) ?_
  refine lv_aload_n hx hb dL_law_495 rfl (lv_at hl 3 rfl) ?_
  refine lv_iload_n hx hb dL_law_496 rfl (lv_at hl 0 rfl) ?_
  refine lv_iconst (v := (1 : Int32)) hx hb dL_law_497 (by decide) ?_
  refine lv_iadd hx hb dL_law_498 ?_
  refine lv_topi (fun x99 ex99 => ?_)
  have tx99 : x99.toInt = x3.toInt + (1 : Int32).toInt := by rw [ex99]; exact ti_add (by omega)
  refine va_sld hx hb hX hbl hbA hS (vin (by omega)) dL_law_499 ?_
  refine lv_topi (fun v10 ev10 => ?_)
  obtain rfl : v2 = v10 := by rw [ev2, ev10, ex91, ex99]
  refine lv_aload_n hx hb dL_law_500 rfl (lv_at hl 3 rfl) ?_
  refine lv_iload_n hx hb dL_law_501 rfl (lv_at hl 0 rfl) ?_
  refine lv_iconst (v := (2 : Int32)) hx hb dL_law_502 (by decide) ?_
  refine lv_iadd hx hb dL_law_503 ?_
  refine lv_topi (fun x911 ex911 => ?_)
  have tx911 : x911.toInt = x3.toInt + (2 : Int32).toInt := by rw [ex911]; exact ti_add (by omega)
  refine va_sld hx hb hX hbl hbA hS (vin (by omega)) dL_law_504 ?_
  refine lv_topi (fun v12 ev12 => ?_)
  obtain rfl : v4 = v12 := by rw [ev4, ev12, ex93, ex911]
  refine lv_aload_n hx hb dL_law_505 rfl (lv_at hl 3 rfl) ?_
  refine lv_iload_n hx hb dL_law_506 rfl (lv_at hl 0 rfl) ?_
  refine lv_iconst (v := (3 : Int32)) hx hb dL_law_507 (by decide) ?_
  refine lv_iadd hx hb dL_law_508 ?_
  refine lv_topi (fun x913 ex913 => ?_)
  have tx913 : x913.toInt = x3.toInt + (3 : Int32).toInt := by rw [ex913]; exact ti_add (by omega)
  refine va_sld hx hb hX hbl hbA hS (vin (by omega)) dL_law_509 ?_
  refine lv_topi (fun v14 ev14 => ?_)
  obtain rfl : v6 = v14 := by rw [ev6, ev14, ex95, ex913]
  refine lw_Vl (q := (RX11, TX11, 31)) (As := [.int v2, .int v4, .int v6]) (rest := []) ⟨hx, hb, hml, hown, hts⟩ (c_X11_table l D cy κ u8 q1 km v2 v4 v6) (cwV 3 hts g2_X11_table rfl rfl rfl (by decide +kernel) ⟨Nat.le_of_ble_eq_true rfl, Nat.le_of_ble_eq_true rfl⟩) hK hT hS hκ km (by decide) rfl rfl hl.1 rfl (Nat.le_of_ble_eq_true rfl) dL_law_510 hc (fun r15 u16 H locs hpu16 hT hS => ?_)
  refine lv_pop2_2 hx hb dL_law_513 rfl ?_
  refine lv_goto (tgt := 1226) hx hb dL_law_514 (by decide) ?_
  exact kend u16 H locs (EQ.cnt (cntG.of hpu16.1) (EQ.cnt (cntG.of hpu8.1) hE)) hT hS
set_option maxHeartbeats 4000000 in
set_option maxRecDepth 100000 in
theorem law_c9 {p : Program} {l : Launch} {e : Env} {s : State} {m : MethodId} {below : List Frame} {meth : Method} {c : Code} {b L : Nat} {xs : Nat → Int32} {cells slots : Nat} {Q : State → Prop} {D : va_G} {cy : Nat → ClassId} {κ : Nat → Nat} {q0 q1 : Nat} (hx : p.tables.exec = Jvm.exec) (hb : c.code = cL_law) (hml : c.maxLocals = 4) (hown : s.vm.findClass RL = some m.cls) (hts : ∀ w ∈ lw_tbl, w.before #[Value.ref b] s = true) (hX : va_X b L xs s s.heap) (hbl : b < s.heap.size) (hK : KK D cy s) (kx : κ q0 = 11) (km : κ q1 = 12) (hκ : ∀ q, κ q ≠ 0 → (fun q : Nat => s.heap.size ≤ q) q) (hc : cells ≤ 600000 ∧ slots ≤ 7302250) {g : Gh} {H : Heap} {locs : List Loc} {ls : Array Slot} {x3 : Int32} (hE : EQ g) (hT : TW D cy κ g H) (hS : va_S (fun q : Nat => s.heap.size ≤ q) s.heap H locs) (hl : lv_has ls 4 [(3, .int x3), (2, .ref q1), (1, .ref q0), (0, .ref b)]) (h3 : 0 ≤ x3.toInt ∧ x3.toInt + 7 ≤ (L : Int)) (hL : L ≤ 3584) (kend : ∀ (g1 : Gh) (H1 : Heap) (locs1 : List Loc), EQ g1 → TW D cy κ g1 H1 → va_S (fun q : Nat => s.heap.size ≤ q) s.heap H1 locs1 → W p l e room_1 s m #[Value.ref b] below meth c H1 locs1 cells slots Q (F0 m 1226 ls [])) : W p l e room_1 s m #[Value.ref b] below meth c H locs cells slots Q (F0 m 517 ls []) := by
  have hbA : ¬ (fun q : Nat => s.heap.size ≤ q) b := Nat.not_le.mpr hbl
  have hc1 : (1 : Int32).toInt = 1 := rfl
  refine lv_aload_n hx hb dL_law_517 rfl (lv_at hl 2 rfl) ?_
  refine lv_aload_n hx hb dL_law_518 rfl (lv_at hl 3 rfl) ?_
  refine lv_iload_n hx hb dL_law_519 rfl (lv_at hl 0 rfl) ?_
  refine lv_iconst (v := (1 : Int32)) hx hb dL_law_520 (by decide) ?_
  refine lv_iadd hx hb dL_law_521 ?_
  refine lv_topi (fun x91 ex91 => ?_)
  have tx91 : x91.toInt = x3.toInt + (1 : Int32).toInt := by rw [ex91]; exact ti_add (by omega)
  refine va_sld hx hb hX hbl hbA hS (vin (by omega)) dL_law_522 ?_
  refine lv_topi (fun v2 ev2 => ?_)
  refine lw_Vi (q := (RX10, TX10, 11)) (As := [.int v2]) (rest := []) ⟨hx, hb, hml, hown, hts⟩ (c_X10_tied l D cy κ g q0 kx v2) (cwV 1 hts g2_X10_tied rfl rfl rfl (by decide +kernel) ⟨Nat.le_of_ble_eq_true rfl, Nat.le_of_ble_eq_true rfl⟩) hK hT hS hκ kx (by decide) rfl rfl hl.1 rfl (Nat.le_of_ble_eq_true rfl) dL_law_523 hc (fun r3 u4 H locs hpu4 hT hS => ?_)
  refine lv_pop hx hb dL_law_526 rfl ?_
  refine lv_aload_n hx hb dL_law_527 rfl (lv_at hl 1 rfl) ?_
  refine lv_aload_n hx hb dL_law_528 rfl (lv_at hl 3 rfl) ?_
  refine lv_iload_n hx hb dL_law_529 rfl (lv_at hl 0 rfl) ?_
  refine lv_iconst (v := (1 : Int32)) hx hb dL_law_530 (by decide) ?_
  refine lv_iadd hx hb dL_law_531 ?_
  refine lv_topi (fun x95 ex95 => ?_)
  have tx95 : x95.toInt = x3.toInt + (1 : Int32).toInt := by rw [ex95]; exact ti_add (by omega)
  refine va_sld hx hb hX hbl hbA hS (vin (by omega)) dL_law_532 ?_
  refine lv_topi (fun v6 ev6 => ?_)
  obtain rfl : v2 = v6 := by rw [ev2, ev6, ex91, ex95]
  refine lw_Vi (q := (RX11, TX11, 31)) (As := [.int v2]) (rest := []) ⟨hx, hb, hml, hown, hts⟩ (c_X11_tied l D cy κ u4 q1 km v2) (cwV 1 hts g2_X11_tied rfl rfl rfl (by decide +kernel) ⟨Nat.le_of_ble_eq_true rfl, Nat.le_of_ble_eq_true rfl⟩) hK hT hS hκ km (by decide) rfl rfl hl.1 rfl (Nat.le_of_ble_eq_true rfl) dL_law_533 hc (fun r7 u8 H locs hpu8 hT hS => ?_)
  refine lv_pop hx hb dL_law_536 rfl ?_
  refine lv_goto (tgt := 1226) hx hb dL_law_537 (by decide) ?_
  exact kend u8 H locs (EQ.cnt (cntG.of hpu8.1) (EQ.cnt (cntG.of hpu4.1) hE)) hT hS
set_option maxHeartbeats 4000000 in
set_option maxRecDepth 100000 in
theorem law_c10 {p : Program} {l : Launch} {e : Env} {s : State} {m : MethodId} {below : List Frame} {meth : Method} {c : Code} {b L : Nat} {xs : Nat → Int32} {cells slots : Nat} {Q : State → Prop} {D : va_G} {cy : Nat → ClassId} {κ : Nat → Nat} {q0 q1 : Nat} (hx : p.tables.exec = Jvm.exec) (hb : c.code = cL_law) (hml : c.maxLocals = 4) (hown : s.vm.findClass RL = some m.cls) (hts : ∀ w ∈ lw_tbl, w.before #[Value.ref b] s = true) (hX : va_X b L xs s s.heap) (hbl : b < s.heap.size) (hK : KK D cy s) (kx : κ q0 = 11) (km : κ q1 = 12) (hκ : ∀ q, κ q ≠ 0 → (fun q : Nat => s.heap.size ≤ q) q) (hc : cells ≤ 600000 ∧ slots ≤ 7302250) {g : Gh} {H : Heap} {locs : List Loc} {ls : Array Slot} {x3 : Int32} (hE : EQ g) (hT : TW D cy κ g H) (hS : va_S (fun q : Nat => s.heap.size ≤ q) s.heap H locs) (hl : lv_has ls 4 [(3, .int x3), (2, .ref q1), (1, .ref q0), (0, .ref b)]) (h3 : 0 ≤ x3.toInt ∧ x3.toInt + 7 ≤ (L : Int)) (hL : L ≤ 3584) (kend : ∀ (g1 : Gh) (H1 : Heap) (locs1 : List Loc), EQ g1 → TW D cy κ g1 H1 → va_S (fun q : Nat => s.heap.size ≤ q) s.heap H1 locs1 → W p l e room_1 s m #[Value.ref b] below meth c H1 locs1 cells slots Q (F0 m 1226 ls [])) : W p l e room_1 s m #[Value.ref b] below meth c H locs cells slots Q (F0 m 540 ls []) := by
  have hbA : ¬ (fun q : Nat => s.heap.size ≤ q) b := Nat.not_le.mpr hbl
  have hc1 : (1 : Int32).toInt = 1 := rfl
  refine lv_aload_n hx hb dL_law_540 rfl (lv_at hl 2 rfl) ?_
  refine lv_aload_n hx hb dL_law_541 rfl (lv_at hl 3 rfl) ?_
  refine lv_iload_n hx hb dL_law_542 rfl (lv_at hl 0 rfl) ?_
  refine lv_iconst (v := (1 : Int32)) hx hb dL_law_543 (by decide) ?_
  refine lv_iadd hx hb dL_law_544 ?_
  refine lv_topi (fun x91 ex91 => ?_)
  have tx91 : x91.toInt = x3.toInt + (1 : Int32).toInt := by rw [ex91]; exact ti_add (by omega)
  refine va_sld hx hb hX hbl hbA hS (vin (by omega)) dL_law_545 ?_
  refine lv_topi (fun v2 ev2 => ?_)
  refine lw_Vi (q := (RX10, TX10, 11)) (As := [.int v2]) (rest := []) ⟨hx, hb, hml, hown, hts⟩ (c_X10_even l D cy κ g q0 kx v2) (cwV 1 hts g2_X10_even rfl rfl rfl (by decide +kernel) ⟨Nat.le_of_ble_eq_true rfl, Nat.le_of_ble_eq_true rfl⟩) hK hT hS hκ kx (by decide) rfl rfl hl.1 rfl (Nat.le_of_ble_eq_true rfl) dL_law_546 hc (fun r3 u4 H locs hpu4 hT hS => ?_)
  refine lv_pop hx hb dL_law_549 rfl ?_
  refine lv_aload_n hx hb dL_law_550 rfl (lv_at hl 1 rfl) ?_
  refine lv_aload_n hx hb dL_law_551 rfl (lv_at hl 3 rfl) ?_
  refine lv_iload_n hx hb dL_law_552 rfl (lv_at hl 0 rfl) ?_
  refine lv_iconst (v := (1 : Int32)) hx hb dL_law_553 (by decide) ?_
  refine lv_iadd hx hb dL_law_554 ?_
  refine lv_topi (fun x95 ex95 => ?_)
  have tx95 : x95.toInt = x3.toInt + (1 : Int32).toInt := by rw [ex95]; exact ti_add (by omega)
  refine va_sld hx hb hX hbl hbA hS (vin (by omega)) dL_law_555 ?_
  refine lv_topi (fun v6 ev6 => ?_)
  obtain rfl : v2 = v6 := by rw [ev2, ev6, ex91, ex95]
  refine lw_Vi (q := (RX11, TX11, 31)) (As := [.int v2]) (rest := []) ⟨hx, hb, hml, hown, hts⟩ (c_X11_even l D cy κ u4 q1 km v2) (cwV 1 hts g2_X11_even rfl rfl rfl (by decide +kernel) ⟨Nat.le_of_ble_eq_true rfl, Nat.le_of_ble_eq_true rfl⟩) hK hT hS hκ km (by decide) rfl rfl hl.1 rfl (Nat.le_of_ble_eq_true rfl) dL_law_556 hc (fun r7 u8 H locs hpu8 hT hS => ?_)
  refine lv_pop hx hb dL_law_559 rfl ?_
  refine lv_goto (tgt := 1226) hx hb dL_law_560 (by decide) ?_
  exact kend u8 H locs (EQ.cnt (cntG.of hpu8.1) (EQ.cnt (cntG.of hpu4.1) hE)) hT hS
set_option maxHeartbeats 4000000 in
set_option maxRecDepth 100000 in
theorem law_c11 {p : Program} {l : Launch} {e : Env} {s : State} {m : MethodId} {below : List Frame} {meth : Method} {c : Code} {b L : Nat} {xs : Nat → Int32} {cells slots : Nat} {Q : State → Prop} {D : va_G} {cy : Nat → ClassId} {κ : Nat → Nat} {q0 q1 : Nat} (hx : p.tables.exec = Jvm.exec) (hb : c.code = cL_law) (hml : c.maxLocals = 4) (hown : s.vm.findClass RL = some m.cls) (hts : ∀ w ∈ lw_tbl, w.before #[Value.ref b] s = true) (hX : va_X b L xs s s.heap) (hbl : b < s.heap.size) (hK : KK D cy s) (kx : κ q0 = 11) (km : κ q1 = 12) (hκ : ∀ q, κ q ≠ 0 → (fun q : Nat => s.heap.size ≤ q) q) (hc : cells ≤ 600000 ∧ slots ≤ 7302250) {g : Gh} {H : Heap} {locs : List Loc} {ls : Array Slot} {x3 : Int32} (hE : EQ g) (hT : TW D cy κ g H) (hS : va_S (fun q : Nat => s.heap.size ≤ q) s.heap H locs) (hl : lv_has ls 4 [(3, .int x3), (2, .ref q1), (1, .ref q0), (0, .ref b)]) (h3 : 0 ≤ x3.toInt ∧ x3.toInt + 7 ≤ (L : Int)) (hL : L ≤ 3584) (kend : ∀ (g1 : Gh) (H1 : Heap) (locs1 : List Loc), EQ g1 → TW D cy κ g1 H1 → va_S (fun q : Nat => s.heap.size ≤ q) s.heap H1 locs1 → W p l e room_1 s m #[Value.ref b] below meth c H1 locs1 cells slots Q (F0 m 1226 ls [])) : W p l e room_1 s m #[Value.ref b] below meth c H locs cells slots Q (F0 m 563 ls []) := by
  have hbA : ¬ (fun q : Nat => s.heap.size ≤ q) b := Nat.not_le.mpr hbl
  have hc1 : (1 : Int32).toInt = 1 := rfl
  refine lv_aload_n hx hb dL_law_563 rfl (lv_at hl 2 rfl) ?_
  refine lv_aload_n hx hb dL_law_564 rfl (lv_at hl 3 rfl) ?_
  refine lv_iload_n hx hb dL_law_565 rfl (lv_at hl 0 rfl) ?_
  refine lv_iconst (v := (1 : Int32)) hx hb dL_law_566 (by decide) ?_
  refine lv_iadd hx hb dL_law_567 ?_
  refine lv_topi (fun x91 ex91 => ?_)
  have tx91 : x91.toInt = x3.toInt + (1 : Int32).toInt := by rw [ex91]; exact ti_add (by omega)
  refine va_sld hx hb hX hbl hbA hS (vin (by omega)) dL_law_568 ?_
  refine lv_topi (fun v2 ev2 => ?_)
  refine lw_Vl (q := (RX10, TX10, 11)) (As := [.int v2]) (rest := []) ⟨hx, hb, hml, hown, hts⟩ (c_X10_determinant l D cy κ g q0 kx v2) (cwV 1 hts g2_X10_determinant rfl rfl rfl (by decide +kernel) ⟨Nat.le_of_ble_eq_true rfl, Nat.le_of_ble_eq_true rfl⟩) hK hT hS hκ kx (by decide) rfl rfl hl.1 rfl (Nat.le_of_ble_eq_true rfl) dL_law_569 hc (fun r3 u4 H locs hpu4 hT hS => ?_)
  refine lv_pop2_2 hx hb dL_law_572 rfl ?_
  refine lv_aload_n hx hb dL_law_573 rfl (lv_at hl 1 rfl) ?_
  refine lv_aload_n hx hb dL_law_574 rfl (lv_at hl 3 rfl) ?_
  refine lv_iload_n hx hb dL_law_575 rfl (lv_at hl 0 rfl) ?_
  refine lv_iconst (v := (1 : Int32)) hx hb dL_law_576 (by decide) ?_
  refine lv_iadd hx hb dL_law_577 ?_
  refine lv_topi (fun x95 ex95 => ?_)
  have tx95 : x95.toInt = x3.toInt + (1 : Int32).toInt := by rw [ex95]; exact ti_add (by omega)
  refine va_sld hx hb hX hbl hbA hS (vin (by omega)) dL_law_578 ?_
  refine lv_topi (fun v6 ev6 => ?_)
  obtain rfl : v2 = v6 := by rw [ev2, ev6, ex91, ex95]
  refine lw_Vl (q := (RX11, TX11, 31)) (As := [.int v2]) (rest := []) ⟨hx, hb, hml, hown, hts⟩ (c_X11_determinant l D cy κ u4 q1 km v2) (cwV 1 hts g2_X11_determinant rfl rfl rfl (by decide +kernel) ⟨Nat.le_of_ble_eq_true rfl, Nat.le_of_ble_eq_true rfl⟩) hK hT hS hκ km (by decide) rfl rfl hl.1 rfl (Nat.le_of_ble_eq_true rfl) dL_law_579 hc (fun r7 u8 H locs hpu8 hT hS => ?_)
  refine lv_pop2_2 hx hb dL_law_582 rfl ?_
  refine lv_goto (tgt := 1226) hx hb dL_law_583 (by decide) ?_
  exact kend u8 H locs (EQ.cnt (cntG.of hpu8.1) (EQ.cnt (cntG.of hpu4.1) hE)) hT hS
set_option maxHeartbeats 4000000 in
set_option maxRecDepth 100000 in
theorem law_c12 {p : Program} {l : Launch} {e : Env} {s : State} {m : MethodId} {below : List Frame} {meth : Method} {c : Code} {b L : Nat} {xs : Nat → Int32} {cells slots : Nat} {Q : State → Prop} {D : va_G} {cy : Nat → ClassId} {κ : Nat → Nat} {q0 q1 : Nat} (hx : p.tables.exec = Jvm.exec) (hb : c.code = cL_law) (hml : c.maxLocals = 4) (hown : s.vm.findClass RL = some m.cls) (hts : ∀ w ∈ lw_tbl, w.before #[Value.ref b] s = true) (hX : va_X b L xs s s.heap) (hbl : b < s.heap.size) (hK : KK D cy s) (kx : κ q0 = 11) (km : κ q1 = 12) (hκ : ∀ q, κ q ≠ 0 → (fun q : Nat => s.heap.size ≤ q) q) (hc : cells ≤ 600000 ∧ slots ≤ 7302250) {g : Gh} {H : Heap} {locs : List Loc} {ls : Array Slot} {x3 : Int32} (hE : EQ g) (hT : TW D cy κ g H) (hS : va_S (fun q : Nat => s.heap.size ≤ q) s.heap H locs) (hl : lv_has ls 4 [(3, .int x3), (2, .ref q1), (1, .ref q0), (0, .ref b)]) (h3 : 0 ≤ x3.toInt ∧ x3.toInt + 7 ≤ (L : Int)) (hL : L ≤ 3584) (kend : ∀ (g1 : Gh) (H1 : Heap) (locs1 : List Loc), EQ g1 → TW D cy κ g1 H1 → va_S (fun q : Nat => s.heap.size ≤ q) s.heap H1 locs1 → W p l e room_1 s m #[Value.ref b] below meth c H1 locs1 cells slots Q (F0 m 1226 ls [])) : W p l e room_1 s m #[Value.ref b] below meth c H locs cells slots Q (F0 m 586 ls []) := by
  have hbA : ¬ (fun q : Nat => s.heap.size ≤ q) b := Nat.not_le.mpr hbl
  have hc1 : (1 : Int32).toInt = 1 := rfl
  have hc2 : (2 : Int32).toInt = 2 := rfl
  have hc3 : (3 : Int32).toInt = 3 := rfl
  have hc4 : (4 : Int32).toInt = 4 := rfl
  have hc5 : (5 : Int32).toInt = 5 := rfl
  have hc6 : (6 : Int32).toInt = 6 := rfl
  refine lv_aload_n hx hb dL_law_586 rfl (lv_at hl 2 rfl) ?_
  refine lv_aload_n hx hb dL_law_587 rfl (lv_at hl 3 rfl) ?_
  refine lv_iload_n hx hb dL_law_588 rfl (lv_at hl 0 rfl) ?_
  refine lv_iconst (v := (1 : Int32)) hx hb dL_law_589 (by decide) ?_
  refine lv_iadd hx hb dL_law_590 ?_
  refine lv_topi (fun x91 ex91 => ?_)
  have tx91 : x91.toInt = x3.toInt + (1 : Int32).toInt := by rw [ex91]; exact ti_add (by omega)
  refine va_sld hx hb hX hbl hbA hS (vin (by omega)) dL_law_591 ?_
  refine lv_topi (fun v2 ev2 => ?_)
  refine lv_aload_n hx hb dL_law_592 rfl (lv_at hl 3 rfl) ?_
  refine lv_iload_n hx hb dL_law_593 rfl (lv_at hl 0 rfl) ?_
  refine lv_iconst (v := (2 : Int32)) hx hb dL_law_594 (by decide) ?_
  refine lv_iadd hx hb dL_law_595 ?_
  refine lv_topi (fun x93 ex93 => ?_)
  have tx93 : x93.toInt = x3.toInt + (2 : Int32).toInt := by rw [ex93]; exact ti_add (by omega)
  refine va_sld hx hb hX hbl hbA hS (vin (by omega)) dL_law_596 ?_
  refine lv_topi (fun v4 ev4 => ?_)
  refine lv_aload_n hx hb dL_law_597 rfl (lv_at hl 3 rfl) ?_
  refine lv_iload_n hx hb dL_law_598 rfl (lv_at hl 0 rfl) ?_
  refine lv_iconst (v := (3 : Int32)) hx hb dL_law_599 (by decide) ?_
  refine lv_iadd hx hb dL_law_600 ?_
  refine lv_topi (fun x95 ex95 => ?_)
  have tx95 : x95.toInt = x3.toInt + (3 : Int32).toInt := by rw [ex95]; exact ti_add (by omega)
  refine va_sld hx hb hX hbl hbA hS (vin (by omega)) dL_law_601 ?_
  refine lv_topi (fun v6 ev6 => ?_)
  refine lv_aload_n hx hb dL_law_602 rfl (lv_at hl 3 rfl) ?_
  refine lv_iload_n hx hb dL_law_603 rfl (lv_at hl 0 rfl) ?_
  refine lv_iconst (v := (4 : Int32)) hx hb dL_law_604 (by decide) ?_
  refine lv_iadd hx hb dL_law_605 ?_
  refine lv_topi (fun x97 ex97 => ?_)
  have tx97 : x97.toInt = x3.toInt + (4 : Int32).toInt := by rw [ex97]; exact ti_add (by omega)
  refine va_sld hx hb hX hbl hbA hS (vin (by omega)) dL_law_606 ?_
  refine lv_topi (fun v8 ev8 => ?_)
  refine lv_aload_n hx hb dL_law_607 rfl (lv_at hl 3 rfl) ?_
  refine lv_iload_n hx hb dL_law_608 rfl (lv_at hl 0 rfl) ?_
  refine lv_iconst (v := (5 : Int32)) hx hb dL_law_609 (by decide) ?_
  refine lv_iadd hx hb dL_law_610 ?_
  refine lv_topi (fun x99 ex99 => ?_)
  have tx99 : x99.toInt = x3.toInt + (5 : Int32).toInt := by rw [ex99]; exact ti_add (by omega)
  refine va_sld hx hb hX hbl hbA hS (vin (by omega)) dL_law_611 ?_
  refine lv_topi (fun v10 ev10 => ?_)
  refine lv_aload_n hx hb dL_law_612 rfl (lv_at hl 3 rfl) ?_
  refine lv_iload_n hx hb dL_law_613 rfl (lv_at hl 0 rfl) ?_
  refine lv_bipush (v := (6 : Int32)) hx hb dL_law_614 (by decide) ?_
  refine lv_iadd hx hb dL_law_616 ?_
  refine lv_topi (fun x911 ex911 => ?_)
  have tx911 : x911.toInt = x3.toInt + (6 : Int32).toInt := by rw [ex911]; exact ti_add (by omega)
  refine va_sld hx hb hX hbl hbA hS (vin (by omega)) dL_law_617 ?_
  refine lv_topi (fun v12 ev12 => ?_)
  refine lw_Vl (q := (RX10, TX10, 11)) (As := [.int v2, .int v4, .int v6, .int v8, .int v10, .int v12]) (rest := []) ⟨hx, hb, hml, hown, hts⟩ (c_X10_stretch l D cy κ g q0 kx v2 v4 v6 v8 v10 v12) (cwV 6 hts g2_X10_stretch rfl rfl rfl (by decide +kernel) ⟨Nat.le_of_ble_eq_true rfl, Nat.le_of_ble_eq_true rfl⟩) hK hT hS hκ kx (by decide) rfl rfl hl.1 rfl (Nat.le_of_ble_eq_true rfl) dL_law_618 hc (fun r13 u14 H locs hpu14 hT hS => ?_)
  refine lv_pop2_2 hx hb dL_law_621 rfl ?_
  refine lv_aload_n hx hb dL_law_622 rfl (lv_at hl 1 rfl) ?_
  refine lv_aload_n hx hb dL_law_623 rfl (lv_at hl 3 rfl) ?_
  refine lv_iload_n hx hb dL_law_624 rfl (lv_at hl 0 rfl) ?_
  refine lv_iconst (v := (1 : Int32)) hx hb dL_law_625 (by decide) ?_
  refine lv_iadd hx hb dL_law_626 ?_
  refine lv_topi (fun x915 ex915 => ?_)
  have tx915 : x915.toInt = x3.toInt + (1 : Int32).toInt := by rw [ex915]; exact ti_add (by omega)
  refine va_sld hx hb hX hbl hbA hS (vin (by omega)) dL_law_627 ?_
  refine lv_topi (fun v16 ev16 => ?_)
  obtain rfl : v2 = v16 := by rw [ev2, ev16, ex91, ex915]
  refine lv_aload_n hx hb dL_law_628 rfl (lv_at hl 3 rfl) ?_
  refine lv_iload_n hx hb dL_law_629 rfl (lv_at hl 0 rfl) ?_
  refine lv_iconst (v := (2 : Int32)) hx hb dL_law_630 (by decide) ?_
  refine lv_iadd hx hb dL_law_631 ?_
  refine lv_topi (fun x917 ex917 => ?_)
  have tx917 : x917.toInt = x3.toInt + (2 : Int32).toInt := by rw [ex917]; exact ti_add (by omega)
  refine va_sld hx hb hX hbl hbA hS (vin (by omega)) dL_law_632 ?_
  refine lv_topi (fun v18 ev18 => ?_)
  obtain rfl : v4 = v18 := by rw [ev4, ev18, ex93, ex917]
  refine lv_aload_n hx hb dL_law_633 rfl (lv_at hl 3 rfl) ?_
  refine lv_iload_n hx hb dL_law_634 rfl (lv_at hl 0 rfl) ?_
  refine lv_iconst (v := (3 : Int32)) hx hb dL_law_635 (by decide) ?_
  refine lv_iadd hx hb dL_law_636 ?_
  refine lv_topi (fun x919 ex919 => ?_)
  have tx919 : x919.toInt = x3.toInt + (3 : Int32).toInt := by rw [ex919]; exact ti_add (by omega)
  refine va_sld hx hb hX hbl hbA hS (vin (by omega)) dL_law_637 ?_
  refine lv_topi (fun v20 ev20 => ?_)
  obtain rfl : v6 = v20 := by rw [ev6, ev20, ex95, ex919]
  refine lv_aload_n hx hb dL_law_638 rfl (lv_at hl 3 rfl) ?_
  refine lv_iload_n hx hb dL_law_639 rfl (lv_at hl 0 rfl) ?_
  refine lv_iconst (v := (4 : Int32)) hx hb dL_law_640 (by decide) ?_
  refine lv_iadd hx hb dL_law_641 ?_
  refine lv_topi (fun x921 ex921 => ?_)
  have tx921 : x921.toInt = x3.toInt + (4 : Int32).toInt := by rw [ex921]; exact ti_add (by omega)
  refine va_sld hx hb hX hbl hbA hS (vin (by omega)) dL_law_642 ?_
  refine lv_topi (fun v22 ev22 => ?_)
  obtain rfl : v8 = v22 := by rw [ev8, ev22, ex97, ex921]
  refine lv_aload_n hx hb dL_law_643 rfl (lv_at hl 3 rfl) ?_
  refine lv_iload_n hx hb dL_law_644 rfl (lv_at hl 0 rfl) ?_
  refine lv_iconst (v := (5 : Int32)) hx hb dL_law_645 (by decide) ?_
  refine lv_iadd hx hb dL_law_646 ?_
  refine lv_topi (fun x923 ex923 => ?_)
  have tx923 : x923.toInt = x3.toInt + (5 : Int32).toInt := by rw [ex923]; exact ti_add (by omega)
  refine va_sld hx hb hX hbl hbA hS (vin (by omega)) dL_law_647 ?_
  refine lv_topi (fun v24 ev24 => ?_)
  obtain rfl : v10 = v24 := by rw [ev10, ev24, ex99, ex923]
  refine lv_aload_n hx hb dL_law_648 rfl (lv_at hl 3 rfl) ?_
  refine lv_iload_n hx hb dL_law_649 rfl (lv_at hl 0 rfl) ?_
  refine lv_bipush (v := (6 : Int32)) hx hb dL_law_650 (by decide) ?_
  refine lv_iadd hx hb dL_law_652 ?_
  refine lv_topi (fun x925 ex925 => ?_)
  have tx925 : x925.toInt = x3.toInt + (6 : Int32).toInt := by rw [ex925]; exact ti_add (by omega)
  refine va_sld hx hb hX hbl hbA hS (vin (by omega)) dL_law_653 ?_
  refine lv_topi (fun v26 ev26 => ?_)
  obtain rfl : v12 = v26 := by rw [ev12, ev26, ex911, ex925]
  refine lw_Vl (q := (RX11, TX11, 31)) (As := [.int v2, .int v4, .int v6, .int v8, .int v10, .int v12]) (rest := []) ⟨hx, hb, hml, hown, hts⟩ (c_X11_stretch l D cy κ u14 q1 km v2 v4 v6 v8 v10 v12) (cwV 6 hts g2_X11_stretch rfl rfl rfl (by decide +kernel) ⟨Nat.le_of_ble_eq_true rfl, Nat.le_of_ble_eq_true rfl⟩) hK hT hS hκ km (by decide) rfl rfl hl.1 rfl (Nat.le_of_ble_eq_true rfl) dL_law_654 hc (fun r27 u28 H locs hpu28 hT hS => ?_)
  refine lv_pop2_2 hx hb dL_law_657 rfl ?_
  refine lv_goto (tgt := 1226) hx hb dL_law_658 (by decide) ?_
  exact kend u28 H locs (EQ.cnt (cntG.of hpu28.1) (EQ.cnt (cntG.of hpu14.1) hE)) hT hS
set_option maxHeartbeats 4000000 in
set_option maxRecDepth 100000 in
theorem law_c13 {p : Program} {l : Launch} {e : Env} {s : State} {m : MethodId} {below : List Frame} {meth : Method} {c : Code} {b L : Nat} {xs : Nat → Int32} {cells slots : Nat} {Q : State → Prop} {D : va_G} {cy : Nat → ClassId} {κ : Nat → Nat} {q0 q1 : Nat} (hx : p.tables.exec = Jvm.exec) (hb : c.code = cL_law) (hml : c.maxLocals = 4) (hown : s.vm.findClass RL = some m.cls) (hts : ∀ w ∈ lw_tbl, w.before #[Value.ref b] s = true) (hX : va_X b L xs s s.heap) (hbl : b < s.heap.size) (hK : KK D cy s) (kx : κ q0 = 11) (km : κ q1 = 12) (hκ : ∀ q, κ q ≠ 0 → (fun q : Nat => s.heap.size ≤ q) q) (hc : cells ≤ 600000 ∧ slots ≤ 7302250) {g : Gh} {H : Heap} {locs : List Loc} {ls : Array Slot} {x3 : Int32} (hE : EQ g) (hT : TW D cy κ g H) (hS : va_S (fun q : Nat => s.heap.size ≤ q) s.heap H locs) (hl : lv_has ls 4 [(3, .int x3), (2, .ref q1), (1, .ref q0), (0, .ref b)]) (h3 : 0 ≤ x3.toInt ∧ x3.toInt + 7 ≤ (L : Int)) (hL : L ≤ 3584) (kend : ∀ (g1 : Gh) (H1 : Heap) (locs1 : List Loc), EQ g1 → TW D cy κ g1 H1 → va_S (fun q : Nat => s.heap.size ≤ q) s.heap H1 locs1 → W p l e room_1 s m #[Value.ref b] below meth c H1 locs1 cells slots Q (F0 m 1226 ls [])) : W p l e room_1 s m #[Value.ref b] below meth c H locs cells slots Q (F0 m 661 ls []) := by
  have hbA : ¬ (fun q : Nat => s.heap.size ≤ q) b := Nat.not_le.mpr hbl
  have hc1 : (1 : Int32).toInt = 1 := rfl
  have hc2 : (2 : Int32).toInt = 2 := rfl
  have hc3 : (3 : Int32).toInt = 3 := rfl
  have hc4 : (4 : Int32).toInt = 4 := rfl
  refine lv_aload_n hx hb dL_law_661 rfl (lv_at hl 2 rfl) ?_
  refine lv_aload_n hx hb dL_law_662 rfl (lv_at hl 3 rfl) ?_
  refine lv_iload_n hx hb dL_law_663 rfl (lv_at hl 0 rfl) ?_
  refine lv_iconst (v := (1 : Int32)) hx hb dL_law_664 (by decide) ?_
  refine lv_iadd hx hb dL_law_665 ?_
  refine lv_topi (fun x91 ex91 => ?_)
  have tx91 : x91.toInt = x3.toInt + (1 : Int32).toInt := by rw [ex91]; exact ti_add (by omega)
  refine va_sld hx hb hX hbl hbA hS (vin (by omega)) dL_law_666 ?_
  refine lv_topi (fun v2 ev2 => ?_)
  refine lv_aload_n hx hb dL_law_667 rfl (lv_at hl 3 rfl) ?_
  refine lv_iload_n hx hb dL_law_668 rfl (lv_at hl 0 rfl) ?_
  refine lv_iconst (v := (2 : Int32)) hx hb dL_law_669 (by decide) ?_
  refine lv_iadd hx hb dL_law_670 ?_
  refine lv_topi (fun x93 ex93 => ?_)
  have tx93 : x93.toInt = x3.toInt + (2 : Int32).toInt := by rw [ex93]; exact ti_add (by omega)
  refine va_sld hx hb hX hbl hbA hS (vin (by omega)) dL_law_671 ?_
  refine lv_topi (fun v4 ev4 => ?_)
  refine lv_aload_n hx hb dL_law_672 rfl (lv_at hl 3 rfl) ?_
  refine lv_iload_n hx hb dL_law_673 rfl (lv_at hl 0 rfl) ?_
  refine lv_iconst (v := (3 : Int32)) hx hb dL_law_674 (by decide) ?_
  refine lv_iadd hx hb dL_law_675 ?_
  refine lv_topi (fun x95 ex95 => ?_)
  have tx95 : x95.toInt = x3.toInt + (3 : Int32).toInt := by rw [ex95]; exact ti_add (by omega)
  refine va_sld hx hb hX hbl hbA hS (vin (by omega)) dL_law_676 ?_
  refine lv_topi (fun v6 ev6 => ?_)
  refine lv_aload_n hx hb dL_law_677 rfl (lv_at hl 3 rfl) ?_
  refine lv_iload_n hx hb dL_law_678 rfl (lv_at hl 0 rfl) ?_
  refine lv_iconst (v := (4 : Int32)) hx hb dL_law_679 (by decide) ?_
  refine lv_iadd hx hb dL_law_680 ?_
  refine lv_topi (fun x97 ex97 => ?_)
  have tx97 : x97.toInt = x3.toInt + (4 : Int32).toInt := by rw [ex97]; exact ti_add (by omega)
  refine va_sld hx hb hX hbl hbA hS (vin (by omega)) dL_law_681 ?_
  refine lv_topi (fun v8 ev8 => ?_)
  refine lw_Vl (q := (RX10, TX10, 11)) (As := [.int v2, .int v4, .int v6, .int v8]) (rest := []) ⟨hx, hb, hml, hown, hts⟩ (c_X10_warm l D cy κ g q0 kx v2 v4 v6 v8) (cwV 4 hts g2_X10_warm rfl rfl rfl (by decide +kernel) ⟨Nat.le_of_ble_eq_true rfl, Nat.le_of_ble_eq_true rfl⟩) hK hT hS hκ kx (by decide) rfl rfl hl.1 rfl (Nat.le_of_ble_eq_true rfl) dL_law_682 hc (fun r9 u10 H locs hpu10 hT hS => ?_)
  refine lv_pop2_2 hx hb dL_law_685 rfl ?_
  refine lv_aload_n hx hb dL_law_686 rfl (lv_at hl 1 rfl) ?_
  refine lv_aload_n hx hb dL_law_687 rfl (lv_at hl 3 rfl) ?_
  refine lv_iload_n hx hb dL_law_688 rfl (lv_at hl 0 rfl) ?_
  refine lv_iconst (v := (1 : Int32)) hx hb dL_law_689 (by decide) ?_
  refine lv_iadd hx hb dL_law_690 ?_
  refine lv_topi (fun x911 ex911 => ?_)
  have tx911 : x911.toInt = x3.toInt + (1 : Int32).toInt := by rw [ex911]; exact ti_add (by omega)
  refine va_sld hx hb hX hbl hbA hS (vin (by omega)) dL_law_691 ?_
  refine lv_topi (fun v12 ev12 => ?_)
  obtain rfl : v2 = v12 := by rw [ev2, ev12, ex91, ex911]
  refine lv_aload_n hx hb dL_law_692 rfl (lv_at hl 3 rfl) ?_
  refine lv_iload_n hx hb dL_law_693 rfl (lv_at hl 0 rfl) ?_
  refine lv_iconst (v := (2 : Int32)) hx hb dL_law_694 (by decide) ?_
  refine lv_iadd hx hb dL_law_695 ?_
  refine lv_topi (fun x913 ex913 => ?_)
  have tx913 : x913.toInt = x3.toInt + (2 : Int32).toInt := by rw [ex913]; exact ti_add (by omega)
  refine va_sld hx hb hX hbl hbA hS (vin (by omega)) dL_law_696 ?_
  refine lv_topi (fun v14 ev14 => ?_)
  obtain rfl : v4 = v14 := by rw [ev4, ev14, ex93, ex913]
  refine lv_aload_n hx hb dL_law_697 rfl (lv_at hl 3 rfl) ?_
  refine lv_iload_n hx hb dL_law_698 rfl (lv_at hl 0 rfl) ?_
  refine lv_iconst (v := (3 : Int32)) hx hb dL_law_699 (by decide) ?_
  refine lv_iadd hx hb dL_law_700 ?_
  refine lv_topi (fun x915 ex915 => ?_)
  have tx915 : x915.toInt = x3.toInt + (3 : Int32).toInt := by rw [ex915]; exact ti_add (by omega)
  refine va_sld hx hb hX hbl hbA hS (vin (by omega)) dL_law_701 ?_
  refine lv_topi (fun v16 ev16 => ?_)
  obtain rfl : v6 = v16 := by rw [ev6, ev16, ex95, ex915]
  refine lv_aload_n hx hb dL_law_702 rfl (lv_at hl 3 rfl) ?_
  refine lv_iload_n hx hb dL_law_703 rfl (lv_at hl 0 rfl) ?_
  refine lv_iconst (v := (4 : Int32)) hx hb dL_law_704 (by decide) ?_
  refine lv_iadd hx hb dL_law_705 ?_
  refine lv_topi (fun x917 ex917 => ?_)
  have tx917 : x917.toInt = x3.toInt + (4 : Int32).toInt := by rw [ex917]; exact ti_add (by omega)
  refine va_sld hx hb hX hbl hbA hS (vin (by omega)) dL_law_706 ?_
  refine lv_topi (fun v18 ev18 => ?_)
  obtain rfl : v8 = v18 := by rw [ev8, ev18, ex97, ex917]
  refine lw_Vl (q := (RX11, TX11, 31)) (As := [.int v2, .int v4, .int v6, .int v8]) (rest := []) ⟨hx, hb, hml, hown, hts⟩ (c_X11_warm l D cy κ u10 q1 km v2 v4 v6 v8) (cwV 4 hts g2_X11_warm rfl rfl rfl (by decide +kernel) ⟨Nat.le_of_ble_eq_true rfl, Nat.le_of_ble_eq_true rfl⟩) hK hT hS hκ km (by decide) rfl rfl hl.1 rfl (Nat.le_of_ble_eq_true rfl) dL_law_707 hc (fun r19 u20 H locs hpu20 hT hS => ?_)
  refine lv_pop2_2 hx hb dL_law_710 rfl ?_
  refine lv_goto (tgt := 1226) hx hb dL_law_711 (by decide) ?_
  exact kend u20 H locs (EQ.cnt (cntG.of hpu20.1) (EQ.cnt (cntG.of hpu10.1) hE)) hT hS
set_option maxHeartbeats 4000000 in
set_option maxRecDepth 100000 in
theorem law_c14 {p : Program} {l : Launch} {e : Env} {s : State} {m : MethodId} {below : List Frame} {meth : Method} {c : Code} {b L : Nat} {xs : Nat → Int32} {cells slots : Nat} {Q : State → Prop} {D : va_G} {cy : Nat → ClassId} {κ : Nat → Nat} {q0 q1 : Nat} (hx : p.tables.exec = Jvm.exec) (hb : c.code = cL_law) (hml : c.maxLocals = 4) (hown : s.vm.findClass RL = some m.cls) (hts : ∀ w ∈ lw_tbl, w.before #[Value.ref b] s = true) (hX : va_X b L xs s s.heap) (hbl : b < s.heap.size) (hK : KK D cy s) (kx : κ q0 = 11) (km : κ q1 = 12) (hκ : ∀ q, κ q ≠ 0 → (fun q : Nat => s.heap.size ≤ q) q) (hc : cells ≤ 600000 ∧ slots ≤ 7302250) {g : Gh} {H : Heap} {locs : List Loc} {ls : Array Slot} {x3 : Int32} (hE : EQ g) (hT : TW D cy κ g H) (hS : va_S (fun q : Nat => s.heap.size ≤ q) s.heap H locs) (hl : lv_has ls 4 [(3, .int x3), (2, .ref q1), (1, .ref q0), (0, .ref b)]) (h3 : 0 ≤ x3.toInt ∧ x3.toInt + 7 ≤ (L : Int)) (hL : L ≤ 3584) (kend : ∀ (g1 : Gh) (H1 : Heap) (locs1 : List Loc), EQ g1 → TW D cy κ g1 H1 → va_S (fun q : Nat => s.heap.size ≤ q) s.heap H1 locs1 → W p l e room_1 s m #[Value.ref b] below meth c H1 locs1 cells slots Q (F0 m 1226 ls [])) : W p l e room_1 s m #[Value.ref b] below meth c H locs cells slots Q (F0 m 714 ls []) := by
  have hbA : ¬ (fun q : Nat => s.heap.size ≤ q) b := Nat.not_le.mpr hbl
  have hc1 : (1 : Int32).toInt = 1 := rfl
  have hc2 : (2 : Int32).toInt = 2 := rfl
  have hc3 : (3 : Int32).toInt = 3 := rfl
  have hc4 : (4 : Int32).toInt = 4 := rfl
  refine lv_aload_n hx hb dL_law_714 rfl (lv_at hl 2 rfl) ?_
  refine lv_aload_n hx hb dL_law_715 rfl (lv_at hl 3 rfl) ?_
  refine lv_iload_n hx hb dL_law_716 rfl (lv_at hl 0 rfl) ?_
  refine lv_iconst (v := (1 : Int32)) hx hb dL_law_717 (by decide) ?_
  refine lv_iadd hx hb dL_law_718 ?_
  refine lv_topi (fun x91 ex91 => ?_)
  have tx91 : x91.toInt = x3.toInt + (1 : Int32).toInt := by rw [ex91]; exact ti_add (by omega)
  refine va_sld hx hb hX hbl hbA hS (vin (by omega)) dL_law_719 ?_
  refine lv_topi (fun v2 ev2 => ?_)
  refine lv_aload_n hx hb dL_law_720 rfl (lv_at hl 3 rfl) ?_
  refine lv_iload_n hx hb dL_law_721 rfl (lv_at hl 0 rfl) ?_
  refine lv_iconst (v := (2 : Int32)) hx hb dL_law_722 (by decide) ?_
  refine lv_iadd hx hb dL_law_723 ?_
  refine lv_topi (fun x93 ex93 => ?_)
  have tx93 : x93.toInt = x3.toInt + (2 : Int32).toInt := by rw [ex93]; exact ti_add (by omega)
  refine va_sld hx hb hX hbl hbA hS (vin (by omega)) dL_law_724 ?_
  refine lv_topi (fun v4 ev4 => ?_)
  refine lv_aload_n hx hb dL_law_725 rfl (lv_at hl 3 rfl) ?_
  refine lv_iload_n hx hb dL_law_726 rfl (lv_at hl 0 rfl) ?_
  refine lv_iconst (v := (3 : Int32)) hx hb dL_law_727 (by decide) ?_
  refine lv_iadd hx hb dL_law_728 ?_
  refine lv_topi (fun x95 ex95 => ?_)
  have tx95 : x95.toInt = x3.toInt + (3 : Int32).toInt := by rw [ex95]; exact ti_add (by omega)
  refine va_sld hx hb hX hbl hbA hS (vin (by omega)) dL_law_729 ?_
  refine lv_topi (fun v6 ev6 => ?_)
  refine lv_aload_n hx hb dL_law_730 rfl (lv_at hl 3 rfl) ?_
  refine lv_iload_n hx hb dL_law_731 rfl (lv_at hl 0 rfl) ?_
  refine lv_iconst (v := (4 : Int32)) hx hb dL_law_732 (by decide) ?_
  refine lv_iadd hx hb dL_law_733 ?_
  refine lv_topi (fun x97 ex97 => ?_)
  have tx97 : x97.toInt = x3.toInt + (4 : Int32).toInt := by rw [ex97]; exact ti_add (by omega)
  refine va_sld hx hb hX hbl hbA hS (vin (by omega)) dL_law_734 ?_
  refine lv_topi (fun v8 ev8 => ?_)
  refine lw_Vi (q := (RX10, TX10, 11)) (As := [.int v2, .int v4, .int v6, .int v8]) (rest := []) ⟨hx, hb, hml, hown, hts⟩ (c_X10_holds l D cy κ g q0 kx v2 v4 v6 v8) (cwV 4 hts g2_X10_holds rfl rfl rfl (by decide +kernel) ⟨Nat.le_of_ble_eq_true rfl, Nat.le_of_ble_eq_true rfl⟩) hK hT hS hκ kx (by decide) rfl rfl hl.1 rfl (Nat.le_of_ble_eq_true rfl) dL_law_735 hc (fun r9 u10 H locs hpu10 hT hS => ?_)
  refine lv_pop hx hb dL_law_738 rfl ?_
  refine lv_aload_n hx hb dL_law_739 rfl (lv_at hl 1 rfl) ?_
  refine lv_aload_n hx hb dL_law_740 rfl (lv_at hl 3 rfl) ?_
  refine lv_iload_n hx hb dL_law_741 rfl (lv_at hl 0 rfl) ?_
  refine lv_iconst (v := (1 : Int32)) hx hb dL_law_742 (by decide) ?_
  refine lv_iadd hx hb dL_law_743 ?_
  refine lv_topi (fun x911 ex911 => ?_)
  have tx911 : x911.toInt = x3.toInt + (1 : Int32).toInt := by rw [ex911]; exact ti_add (by omega)
  refine va_sld hx hb hX hbl hbA hS (vin (by omega)) dL_law_744 ?_
  refine lv_topi (fun v12 ev12 => ?_)
  obtain rfl : v2 = v12 := by rw [ev2, ev12, ex91, ex911]
  refine lv_aload_n hx hb dL_law_745 rfl (lv_at hl 3 rfl) ?_
  refine lv_iload_n hx hb dL_law_746 rfl (lv_at hl 0 rfl) ?_
  refine lv_iconst (v := (2 : Int32)) hx hb dL_law_747 (by decide) ?_
  refine lv_iadd hx hb dL_law_748 ?_
  refine lv_topi (fun x913 ex913 => ?_)
  have tx913 : x913.toInt = x3.toInt + (2 : Int32).toInt := by rw [ex913]; exact ti_add (by omega)
  refine va_sld hx hb hX hbl hbA hS (vin (by omega)) dL_law_749 ?_
  refine lv_topi (fun v14 ev14 => ?_)
  obtain rfl : v4 = v14 := by rw [ev4, ev14, ex93, ex913]
  refine lv_aload_n hx hb dL_law_750 rfl (lv_at hl 3 rfl) ?_
  refine lv_iload_n hx hb dL_law_751 rfl (lv_at hl 0 rfl) ?_
  refine lv_iconst (v := (3 : Int32)) hx hb dL_law_752 (by decide) ?_
  refine lv_iadd hx hb dL_law_753 ?_
  refine lv_topi (fun x915 ex915 => ?_)
  have tx915 : x915.toInt = x3.toInt + (3 : Int32).toInt := by rw [ex915]; exact ti_add (by omega)
  refine va_sld hx hb hX hbl hbA hS (vin (by omega)) dL_law_754 ?_
  refine lv_topi (fun v16 ev16 => ?_)
  obtain rfl : v6 = v16 := by rw [ev6, ev16, ex95, ex915]
  refine lv_aload_n hx hb dL_law_755 rfl (lv_at hl 3 rfl) ?_
  refine lv_iload_n hx hb dL_law_756 rfl (lv_at hl 0 rfl) ?_
  refine lv_iconst (v := (4 : Int32)) hx hb dL_law_757 (by decide) ?_
  refine lv_iadd hx hb dL_law_758 ?_
  refine lv_topi (fun x917 ex917 => ?_)
  have tx917 : x917.toInt = x3.toInt + (4 : Int32).toInt := by rw [ex917]; exact ti_add (by omega)
  refine va_sld hx hb hX hbl hbA hS (vin (by omega)) dL_law_759 ?_
  refine lv_topi (fun v18 ev18 => ?_)
  obtain rfl : v8 = v18 := by rw [ev8, ev18, ex97, ex917]
  refine lw_Vi (q := (RX11, TX11, 31)) (As := [.int v2, .int v4, .int v6, .int v8]) (rest := []) ⟨hx, hb, hml, hown, hts⟩ (c_X11_holds l D cy κ u10 q1 km v2 v4 v6 v8) (cwV 4 hts g2_X11_holds rfl rfl rfl (by decide +kernel) ⟨Nat.le_of_ble_eq_true rfl, Nat.le_of_ble_eq_true rfl⟩) hK hT hS hκ km (by decide) rfl rfl hl.1 rfl (Nat.le_of_ble_eq_true rfl) dL_law_760 hc (fun r19 u20 H locs hpu20 hT hS => ?_)
  refine lv_pop hx hb dL_law_763 rfl ?_
  refine lv_goto (tgt := 1226) hx hb dL_law_764 (by decide) ?_
  exact kend u20 H locs (EQ.cnt hpu20.1 (EQ.cnt (cntG.of hpu10.1) hE)) hT hS
set_option maxHeartbeats 4000000 in
set_option maxRecDepth 100000 in
theorem law_c15 {p : Program} {l : Launch} {e : Env} {s : State} {m : MethodId} {below : List Frame} {meth : Method} {c : Code} {b L : Nat} {xs : Nat → Int32} {cells slots : Nat} {Q : State → Prop} {D : va_G} {cy : Nat → ClassId} {κ : Nat → Nat} {q0 q1 : Nat} (hx : p.tables.exec = Jvm.exec) (hb : c.code = cL_law) (hml : c.maxLocals = 4) (hown : s.vm.findClass RL = some m.cls) (hts : ∀ w ∈ lw_tbl, w.before #[Value.ref b] s = true) (hX : va_X b L xs s s.heap) (hbl : b < s.heap.size) (hK : KK D cy s) (kx : κ q0 = 11) (km : κ q1 = 12) (hκ : ∀ q, κ q ≠ 0 → (fun q : Nat => s.heap.size ≤ q) q) (hc : cells ≤ 600000 ∧ slots ≤ 7302250) {g : Gh} {H : Heap} {locs : List Loc} {ls : Array Slot} {x3 : Int32} (hE : EQ g) (hT : TW D cy κ g H) (hS : va_S (fun q : Nat => s.heap.size ≤ q) s.heap H locs) (hl : lv_has ls 4 [(3, .int x3), (2, .ref q1), (1, .ref q0), (0, .ref b)]) (h3 : 0 ≤ x3.toInt ∧ x3.toInt + 7 ≤ (L : Int)) (hL : L ≤ 3584) (kend : ∀ (g1 : Gh) (H1 : Heap) (locs1 : List Loc), EQ g1 → TW D cy κ g1 H1 → va_S (fun q : Nat => s.heap.size ≤ q) s.heap H1 locs1 → W p l e room_1 s m #[Value.ref b] below meth c H1 locs1 cells slots Q (F0 m 1226 ls [])) : W p l e room_1 s m #[Value.ref b] below meth c H locs cells slots Q (F0 m 767 ls []) := by
  have hbA : ¬ (fun q : Nat => s.heap.size ≤ q) b := Nat.not_le.mpr hbl
  have hc1 : (1 : Int32).toInt = 1 := rfl
  have hc2 : (2 : Int32).toInt = 2 := rfl
  have hc3 : (3 : Int32).toInt = 3 := rfl
  have hc4 : (4 : Int32).toInt = 4 := rfl
  refine lv_aload_n hx hb dL_law_767 rfl (lv_at hl 2 rfl) ?_
  refine lv_aload_n hx hb dL_law_768 rfl (lv_at hl 3 rfl) ?_
  refine lv_iload_n hx hb dL_law_769 rfl (lv_at hl 0 rfl) ?_
  refine lv_iconst (v := (1 : Int32)) hx hb dL_law_770 (by decide) ?_
  refine lv_iadd hx hb dL_law_771 ?_
  refine lv_topi (fun x91 ex91 => ?_)
  have tx91 : x91.toInt = x3.toInt + (1 : Int32).toInt := by rw [ex91]; exact ti_add (by omega)
  refine va_sld hx hb hX hbl hbA hS (vin (by omega)) dL_law_772 ?_
  refine lv_topi (fun v2 ev2 => ?_)
  refine lv_aload_n hx hb dL_law_773 rfl (lv_at hl 3 rfl) ?_
  refine lv_iload_n hx hb dL_law_774 rfl (lv_at hl 0 rfl) ?_
  refine lv_iconst (v := (2 : Int32)) hx hb dL_law_775 (by decide) ?_
  refine lv_iadd hx hb dL_law_776 ?_
  refine lv_topi (fun x93 ex93 => ?_)
  have tx93 : x93.toInt = x3.toInt + (2 : Int32).toInt := by rw [ex93]; exact ti_add (by omega)
  refine va_sld hx hb hX hbl hbA hS (vin (by omega)) dL_law_777 ?_
  refine lv_topi (fun v4 ev4 => ?_)
  refine lv_aload_n hx hb dL_law_778 rfl (lv_at hl 3 rfl) ?_
  refine lv_iload_n hx hb dL_law_779 rfl (lv_at hl 0 rfl) ?_
  refine lv_iconst (v := (3 : Int32)) hx hb dL_law_780 (by decide) ?_
  refine lv_iadd hx hb dL_law_781 ?_
  refine lv_topi (fun x95 ex95 => ?_)
  have tx95 : x95.toInt = x3.toInt + (3 : Int32).toInt := by rw [ex95]; exact ti_add (by omega)
  refine va_sld hx hb hX hbl hbA hS (vin (by omega)) dL_law_782 ?_
  refine lv_topi (fun v6 ev6 => ?_)
  refine lv_aload_n hx hb dL_law_783 rfl (lv_at hl 3 rfl) ?_
  refine lv_iload_n hx hb dL_law_784 rfl (lv_at hl 0 rfl) ?_
  refine lv_iconst (v := (4 : Int32)) hx hb dL_law_785 (by decide) ?_
  refine lv_iadd hx hb dL_law_786 ?_
  refine lv_topi (fun x97 ex97 => ?_)
  have tx97 : x97.toInt = x3.toInt + (4 : Int32).toInt := by rw [ex97]; exact ti_add (by omega)
  refine va_sld hx hb hX hbl hbA hS (vin (by omega)) dL_law_787 ?_
  refine lv_topi (fun v8 ev8 => ?_)
  refine lw_Vi (q := (RX10, TX10, 11)) (As := [.int v2, .int v4, .int v6, .int v8]) (rest := []) ⟨hx, hb, hml, hown, hts⟩ (c_X10_first l D cy κ g q0 kx v2 v4 v6 v8) (cwV 4 hts g2_X10_first rfl rfl rfl (by decide +kernel) ⟨Nat.le_of_ble_eq_true rfl, Nat.le_of_ble_eq_true rfl⟩) hK hT hS hκ kx (by decide) rfl rfl hl.1 rfl (Nat.le_of_ble_eq_true rfl) dL_law_788 hc (fun r9 u10 H locs hpu10 hT hS => ?_)
  refine lv_pop hx hb dL_law_791 rfl ?_
  refine lv_aload_n hx hb dL_law_792 rfl (lv_at hl 1 rfl) ?_
  refine lv_aload_n hx hb dL_law_793 rfl (lv_at hl 3 rfl) ?_
  refine lv_iload_n hx hb dL_law_794 rfl (lv_at hl 0 rfl) ?_
  refine lv_iconst (v := (1 : Int32)) hx hb dL_law_795 (by decide) ?_
  refine lv_iadd hx hb dL_law_796 ?_
  refine lv_topi (fun x911 ex911 => ?_)
  have tx911 : x911.toInt = x3.toInt + (1 : Int32).toInt := by rw [ex911]; exact ti_add (by omega)
  refine va_sld hx hb hX hbl hbA hS (vin (by omega)) dL_law_797 ?_
  refine lv_topi (fun v12 ev12 => ?_)
  obtain rfl : v2 = v12 := by rw [ev2, ev12, ex91, ex911]
  refine lv_aload_n hx hb dL_law_798 rfl (lv_at hl 3 rfl) ?_
  refine lv_iload_n hx hb dL_law_799 rfl (lv_at hl 0 rfl) ?_
  refine lv_iconst (v := (2 : Int32)) hx hb dL_law_800 (by decide) ?_
  refine lv_iadd hx hb dL_law_801 ?_
  refine lv_topi (fun x913 ex913 => ?_)
  have tx913 : x913.toInt = x3.toInt + (2 : Int32).toInt := by rw [ex913]; exact ti_add (by omega)
  refine va_sld hx hb hX hbl hbA hS (vin (by omega)) dL_law_802 ?_
  refine lv_topi (fun v14 ev14 => ?_)
  obtain rfl : v4 = v14 := by rw [ev4, ev14, ex93, ex913]
  refine lv_aload_n hx hb dL_law_803 rfl (lv_at hl 3 rfl) ?_
  refine lv_iload_n hx hb dL_law_804 rfl (lv_at hl 0 rfl) ?_
  refine lv_iconst (v := (3 : Int32)) hx hb dL_law_805 (by decide) ?_
  refine lv_iadd hx hb dL_law_806 ?_
  refine lv_topi (fun x915 ex915 => ?_)
  have tx915 : x915.toInt = x3.toInt + (3 : Int32).toInt := by rw [ex915]; exact ti_add (by omega)
  refine va_sld hx hb hX hbl hbA hS (vin (by omega)) dL_law_807 ?_
  refine lv_topi (fun v16 ev16 => ?_)
  obtain rfl : v6 = v16 := by rw [ev6, ev16, ex95, ex915]
  refine lv_aload_n hx hb dL_law_808 rfl (lv_at hl 3 rfl) ?_
  refine lv_iload_n hx hb dL_law_809 rfl (lv_at hl 0 rfl) ?_
  refine lv_iconst (v := (4 : Int32)) hx hb dL_law_810 (by decide) ?_
  refine lv_iadd hx hb dL_law_811 ?_
  refine lv_topi (fun x917 ex917 => ?_)
  have tx917 : x917.toInt = x3.toInt + (4 : Int32).toInt := by rw [ex917]; exact ti_add (by omega)
  refine va_sld hx hb hX hbl hbA hS (vin (by omega)) dL_law_812 ?_
  refine lv_topi (fun v18 ev18 => ?_)
  obtain rfl : v8 = v18 := by rw [ev8, ev18, ex97, ex917]
  refine lw_Vi (q := (RX11, TX11, 31)) (As := [.int v2, .int v4, .int v6, .int v8]) (rest := []) ⟨hx, hb, hml, hown, hts⟩ (c_X11_first l D cy κ u10 q1 km v2 v4 v6 v8) (cwV 4 hts g2_X11_first rfl rfl rfl (by decide +kernel) ⟨Nat.le_of_ble_eq_true rfl, Nat.le_of_ble_eq_true rfl⟩) hK hT hS hκ km (by decide) rfl rfl hl.1 rfl (Nat.le_of_ble_eq_true rfl) dL_law_813 hc (fun r19 u20 H locs hpu20 hT hS => ?_)
  refine lv_pop hx hb dL_law_816 rfl ?_
  refine lv_goto (tgt := 1226) hx hb dL_law_817 (by decide) ?_
  exact kend u20 H locs (EQ.cnt hpu20.1 (EQ.cnt (cntG.of hpu10.1) hE)) hT hS
set_option maxHeartbeats 4000000 in
set_option maxRecDepth 100000 in
theorem law_c16 {p : Program} {l : Launch} {e : Env} {s : State} {m : MethodId} {below : List Frame} {meth : Method} {c : Code} {b L : Nat} {xs : Nat → Int32} {cells slots : Nat} {Q : State → Prop} {D : va_G} {cy : Nat → ClassId} {κ : Nat → Nat} {q0 q1 : Nat} (hx : p.tables.exec = Jvm.exec) (hb : c.code = cL_law) (hml : c.maxLocals = 4) (hown : s.vm.findClass RL = some m.cls) (hts : ∀ w ∈ lw_tbl, w.before #[Value.ref b] s = true) (hX : va_X b L xs s s.heap) (hbl : b < s.heap.size) (hK : KK D cy s) (kx : κ q0 = 11) (km : κ q1 = 12) (hκ : ∀ q, κ q ≠ 0 → (fun q : Nat => s.heap.size ≤ q) q) (hc : cells ≤ 600000 ∧ slots ≤ 7302250) {g : Gh} {H : Heap} {locs : List Loc} {ls : Array Slot} {x3 : Int32} (hE : EQ g) (hT : TW D cy κ g H) (hS : va_S (fun q : Nat => s.heap.size ≤ q) s.heap H locs) (hl : lv_has ls 4 [(3, .int x3), (2, .ref q1), (1, .ref q0), (0, .ref b)]) (h3 : 0 ≤ x3.toInt ∧ x3.toInt + 7 ≤ (L : Int)) (hL : L ≤ 3584) (kend : ∀ (g1 : Gh) (H1 : Heap) (locs1 : List Loc), EQ g1 → TW D cy κ g1 H1 → va_S (fun q : Nat => s.heap.size ≤ q) s.heap H1 locs1 → W p l e room_1 s m #[Value.ref b] below meth c H1 locs1 cells slots Q (F0 m 1226 ls [])) : W p l e room_1 s m #[Value.ref b] below meth c H locs cells slots Q (F0 m 820 ls []) := by
  have hbA : ¬ (fun q : Nat => s.heap.size ≤ q) b := Nat.not_le.mpr hbl
  have hc1 : (1 : Int32).toInt = 1 := rfl
  have hc2 : (2 : Int32).toInt = 2 := rfl
  have hc3 : (3 : Int32).toInt = 3 := rfl
  have hc4 : (4 : Int32).toInt = 4 := rfl
  have hc5 : (5 : Int32).toInt = 5 := rfl
  refine lv_aload_n hx hb dL_law_820 rfl (lv_at hl 2 rfl) ?_
  refine lv_aload_n hx hb dL_law_821 rfl (lv_at hl 3 rfl) ?_
  refine lv_iload_n hx hb dL_law_822 rfl (lv_at hl 0 rfl) ?_
  refine lv_iconst (v := (1 : Int32)) hx hb dL_law_823 (by decide) ?_
  refine lv_iadd hx hb dL_law_824 ?_
  refine lv_topi (fun x91 ex91 => ?_)
  have tx91 : x91.toInt = x3.toInt + (1 : Int32).toInt := by rw [ex91]; exact ti_add (by omega)
  refine va_sld hx hb hX hbl hbA hS (vin (by omega)) dL_law_825 ?_
  refine lv_topi (fun v2 ev2 => ?_)
  refine lv_aload_n hx hb dL_law_826 rfl (lv_at hl 3 rfl) ?_
  refine lv_iload_n hx hb dL_law_827 rfl (lv_at hl 0 rfl) ?_
  refine lv_iconst (v := (2 : Int32)) hx hb dL_law_828 (by decide) ?_
  refine lv_iadd hx hb dL_law_829 ?_
  refine lv_topi (fun x93 ex93 => ?_)
  have tx93 : x93.toInt = x3.toInt + (2 : Int32).toInt := by rw [ex93]; exact ti_add (by omega)
  refine va_sld hx hb hX hbl hbA hS (vin (by omega)) dL_law_830 ?_
  refine lv_topi (fun v4 ev4 => ?_)
  refine lv_aload_n hx hb dL_law_831 rfl (lv_at hl 3 rfl) ?_
  refine lv_iload_n hx hb dL_law_832 rfl (lv_at hl 0 rfl) ?_
  refine lv_iconst (v := (3 : Int32)) hx hb dL_law_833 (by decide) ?_
  refine lv_iadd hx hb dL_law_834 ?_
  refine lv_topi (fun x95 ex95 => ?_)
  have tx95 : x95.toInt = x3.toInt + (3 : Int32).toInt := by rw [ex95]; exact ti_add (by omega)
  refine va_sld hx hb hX hbl hbA hS (vin (by omega)) dL_law_835 ?_
  refine lv_topi (fun v6 ev6 => ?_)
  refine lv_aload_n hx hb dL_law_836 rfl (lv_at hl 3 rfl) ?_
  refine lv_iload_n hx hb dL_law_837 rfl (lv_at hl 0 rfl) ?_
  refine lv_iconst (v := (4 : Int32)) hx hb dL_law_838 (by decide) ?_
  refine lv_iadd hx hb dL_law_839 ?_
  refine lv_topi (fun x97 ex97 => ?_)
  have tx97 : x97.toInt = x3.toInt + (4 : Int32).toInt := by rw [ex97]; exact ti_add (by omega)
  refine va_sld hx hb hX hbl hbA hS (vin (by omega)) dL_law_840 ?_
  refine lv_topi (fun v8 ev8 => ?_)
  refine lv_aload_n hx hb dL_law_841 rfl (lv_at hl 3 rfl) ?_
  refine lv_iload_n hx hb dL_law_842 rfl (lv_at hl 0 rfl) ?_
  refine lv_iconst (v := (5 : Int32)) hx hb dL_law_843 (by decide) ?_
  refine lv_iadd hx hb dL_law_844 ?_
  refine lv_topi (fun x99 ex99 => ?_)
  have tx99 : x99.toInt = x3.toInt + (5 : Int32).toInt := by rw [ex99]; exact ti_add (by omega)
  refine va_sld hx hb hX hbl hbA hS (vin (by omega)) dL_law_845 ?_
  refine lv_topi (fun v10 ev10 => ?_)
  refine lw_Vl (q := (RX10, TX10, 11)) (As := [.int v2, .int v4, .int v6, .int v8, .int v10]) (rest := []) ⟨hx, hb, hml, hown, hts⟩ (c_X10_factor l D cy κ g q0 kx v2 v4 v6 v8 v10) (cwV 5 hts g2_X10_factor rfl rfl rfl (by decide +kernel) ⟨Nat.le_of_ble_eq_true rfl, Nat.le_of_ble_eq_true rfl⟩) hK hT hS hκ kx (by decide) rfl rfl hl.1 rfl (Nat.le_of_ble_eq_true rfl) dL_law_846 hc (fun r11 u12 H locs hpu12 hT hS => ?_)
  refine lv_pop2_2 hx hb dL_law_849 rfl ?_
  refine lv_aload_n hx hb dL_law_850 rfl (lv_at hl 1 rfl) ?_
  refine lv_aload_n hx hb dL_law_851 rfl (lv_at hl 3 rfl) ?_
  refine lv_iload_n hx hb dL_law_852 rfl (lv_at hl 0 rfl) ?_
  refine lv_iconst (v := (1 : Int32)) hx hb dL_law_853 (by decide) ?_
  refine lv_iadd hx hb dL_law_854 ?_
  refine lv_topi (fun x913 ex913 => ?_)
  have tx913 : x913.toInt = x3.toInt + (1 : Int32).toInt := by rw [ex913]; exact ti_add (by omega)
  refine va_sld hx hb hX hbl hbA hS (vin (by omega)) dL_law_855 ?_
  refine lv_topi (fun v14 ev14 => ?_)
  obtain rfl : v2 = v14 := by rw [ev2, ev14, ex91, ex913]
  refine lv_aload_n hx hb dL_law_856 rfl (lv_at hl 3 rfl) ?_
  refine lv_iload_n hx hb dL_law_857 rfl (lv_at hl 0 rfl) ?_
  refine lv_iconst (v := (2 : Int32)) hx hb dL_law_858 (by decide) ?_
  refine lv_iadd hx hb dL_law_859 ?_
  refine lv_topi (fun x915 ex915 => ?_)
  have tx915 : x915.toInt = x3.toInt + (2 : Int32).toInt := by rw [ex915]; exact ti_add (by omega)
  refine va_sld hx hb hX hbl hbA hS (vin (by omega)) dL_law_860 ?_
  refine lv_topi (fun v16 ev16 => ?_)
  obtain rfl : v4 = v16 := by rw [ev4, ev16, ex93, ex915]
  refine lv_aload_n hx hb dL_law_861 rfl (lv_at hl 3 rfl) ?_
  refine lv_iload_n hx hb dL_law_862 rfl (lv_at hl 0 rfl) ?_
  refine lv_iconst (v := (3 : Int32)) hx hb dL_law_863 (by decide) ?_
  refine lv_iadd hx hb dL_law_864 ?_
  refine lv_topi (fun x917 ex917 => ?_)
  have tx917 : x917.toInt = x3.toInt + (3 : Int32).toInt := by rw [ex917]; exact ti_add (by omega)
  refine va_sld hx hb hX hbl hbA hS (vin (by omega)) dL_law_865 ?_
  refine lv_topi (fun v18 ev18 => ?_)
  obtain rfl : v6 = v18 := by rw [ev6, ev18, ex95, ex917]
  refine lv_aload_n hx hb dL_law_866 rfl (lv_at hl 3 rfl) ?_
  refine lv_iload_n hx hb dL_law_867 rfl (lv_at hl 0 rfl) ?_
  refine lv_iconst (v := (4 : Int32)) hx hb dL_law_868 (by decide) ?_
  refine lv_iadd hx hb dL_law_869 ?_
  refine lv_topi (fun x919 ex919 => ?_)
  have tx919 : x919.toInt = x3.toInt + (4 : Int32).toInt := by rw [ex919]; exact ti_add (by omega)
  refine va_sld hx hb hX hbl hbA hS (vin (by omega)) dL_law_870 ?_
  refine lv_topi (fun v20 ev20 => ?_)
  obtain rfl : v8 = v20 := by rw [ev8, ev20, ex97, ex919]
  refine lv_aload_n hx hb dL_law_871 rfl (lv_at hl 3 rfl) ?_
  refine lv_iload_n hx hb dL_law_872 rfl (lv_at hl 0 rfl) ?_
  refine lv_iconst (v := (5 : Int32)) hx hb dL_law_873 (by decide) ?_
  refine lv_iadd hx hb dL_law_874 ?_
  refine lv_topi (fun x921 ex921 => ?_)
  have tx921 : x921.toInt = x3.toInt + (5 : Int32).toInt := by rw [ex921]; exact ti_add (by omega)
  refine va_sld hx hb hX hbl hbA hS (vin (by omega)) dL_law_875 ?_
  refine lv_topi (fun v22 ev22 => ?_)
  obtain rfl : v10 = v22 := by rw [ev10, ev22, ex99, ex921]
  refine lw_Vl (q := (RX11, TX11, 31)) (As := [.int v2, .int v4, .int v6, .int v8, .int v10]) (rest := []) ⟨hx, hb, hml, hown, hts⟩ (c_X11_factor l D cy κ u12 q1 km v2 v4 v6 v8 v10) (cwV 5 hts g2_X11_factor rfl rfl rfl (by decide +kernel) ⟨Nat.le_of_ble_eq_true rfl, Nat.le_of_ble_eq_true rfl⟩) hK hT hS hκ km (by decide) rfl rfl hl.1 rfl (Nat.le_of_ble_eq_true rfl) dL_law_876 hc (fun r23 u24 H locs hpu24 hT hS => ?_)
  refine lv_pop2_2 hx hb dL_law_879 rfl ?_
  refine lv_goto (tgt := 1226) hx hb dL_law_880 (by decide) ?_
  exact kend u24 H locs (EQ.cnt hpu24.1 (EQ.cnt (cntG.of hpu12.1) hE)) hT hS
set_option maxHeartbeats 4000000 in
set_option maxRecDepth 100000 in
theorem law_c17 {p : Program} {l : Launch} {e : Env} {s : State} {m : MethodId} {below : List Frame} {meth : Method} {c : Code} {b L : Nat} {xs : Nat → Int32} {cells slots : Nat} {Q : State → Prop} {D : va_G} {cy : Nat → ClassId} {κ : Nat → Nat} {q0 q1 : Nat} (hx : p.tables.exec = Jvm.exec) (hb : c.code = cL_law) (hml : c.maxLocals = 4) (hown : s.vm.findClass RL = some m.cls) (hts : ∀ w ∈ lw_tbl, w.before #[Value.ref b] s = true) (hX : va_X b L xs s s.heap) (hbl : b < s.heap.size) (hK : KK D cy s) (kx : κ q0 = 11) (km : κ q1 = 12) (hκ : ∀ q, κ q ≠ 0 → (fun q : Nat => s.heap.size ≤ q) q) (hc : cells ≤ 600000 ∧ slots ≤ 7302250) {g : Gh} {H : Heap} {locs : List Loc} {ls : Array Slot} {x3 : Int32} (hE : EQ g) (hT : TW D cy κ g H) (hS : va_S (fun q : Nat => s.heap.size ≤ q) s.heap H locs) (hl : lv_has ls 4 [(3, .int x3), (2, .ref q1), (1, .ref q0), (0, .ref b)]) (h3 : 0 ≤ x3.toInt ∧ x3.toInt + 7 ≤ (L : Int)) (hL : L ≤ 3584) (kend : ∀ (g1 : Gh) (H1 : Heap) (locs1 : List Loc), EQ g1 → TW D cy κ g1 H1 → va_S (fun q : Nat => s.heap.size ≤ q) s.heap H1 locs1 → W p l e room_1 s m #[Value.ref b] below meth c H1 locs1 cells slots Q (F0 m 1226 ls [])) : W p l e room_1 s m #[Value.ref b] below meth c H locs cells slots Q (F0 m 883 ls []) := by
  have hbA : ¬ (fun q : Nat => s.heap.size ≤ q) b := Nat.not_le.mpr hbl
  have hc1 : (1 : Int32).toInt = 1 := rfl
  have hc2 : (2 : Int32).toInt = 2 := rfl
  have hc3 : (3 : Int32).toInt = 3 := rfl
  have hc4 : (4 : Int32).toInt = 4 := rfl
  refine lv_aload_n hx hb dL_law_883 rfl (lv_at hl 2 rfl) ?_
  refine lv_aload_n hx hb dL_law_884 rfl (lv_at hl 3 rfl) ?_
  refine lv_iload_n hx hb dL_law_885 rfl (lv_at hl 0 rfl) ?_
  refine lv_iconst (v := (1 : Int32)) hx hb dL_law_886 (by decide) ?_
  refine lv_iadd hx hb dL_law_887 ?_
  refine lv_topi (fun x91 ex91 => ?_)
  have tx91 : x91.toInt = x3.toInt + (1 : Int32).toInt := by rw [ex91]; exact ti_add (by omega)
  refine va_sld hx hb hX hbl hbA hS (vin (by omega)) dL_law_888 ?_
  refine lv_topi (fun v2 ev2 => ?_)
  refine lv_aload_n hx hb dL_law_889 rfl (lv_at hl 3 rfl) ?_
  refine lv_iload_n hx hb dL_law_890 rfl (lv_at hl 0 rfl) ?_
  refine lv_iconst (v := (2 : Int32)) hx hb dL_law_891 (by decide) ?_
  refine lv_iadd hx hb dL_law_892 ?_
  refine lv_topi (fun x93 ex93 => ?_)
  have tx93 : x93.toInt = x3.toInt + (2 : Int32).toInt := by rw [ex93]; exact ti_add (by omega)
  refine va_sld hx hb hX hbl hbA hS (vin (by omega)) dL_law_893 ?_
  refine lv_topi (fun v4 ev4 => ?_)
  refine lv_aload_n hx hb dL_law_894 rfl (lv_at hl 3 rfl) ?_
  refine lv_iload_n hx hb dL_law_895 rfl (lv_at hl 0 rfl) ?_
  refine lv_iconst (v := (3 : Int32)) hx hb dL_law_896 (by decide) ?_
  refine lv_iadd hx hb dL_law_897 ?_
  refine lv_topi (fun x95 ex95 => ?_)
  have tx95 : x95.toInt = x3.toInt + (3 : Int32).toInt := by rw [ex95]; exact ti_add (by omega)
  refine va_sld hx hb hX hbl hbA hS (vin (by omega)) dL_law_898 ?_
  refine lv_topi (fun v6 ev6 => ?_)
  refine lv_aload_n hx hb dL_law_899 rfl (lv_at hl 3 rfl) ?_
  refine lv_iload_n hx hb dL_law_900 rfl (lv_at hl 0 rfl) ?_
  refine lv_iconst (v := (4 : Int32)) hx hb dL_law_901 (by decide) ?_
  refine lv_iadd hx hb dL_law_902 ?_
  refine lv_topi (fun x97 ex97 => ?_)
  have tx97 : x97.toInt = x3.toInt + (4 : Int32).toInt := by rw [ex97]; exact ti_add (by omega)
  refine va_sld hx hb hX hbl hbA hS (vin (by omega)) dL_law_903 ?_
  refine lv_topi (fun v8 ev8 => ?_)
  refine lw_Vi (q := (RX10, TX10, 11)) (As := [.int v2, .int v4, .int v6, .int v8]) (rest := []) ⟨hx, hb, hml, hown, hts⟩ (c_X10_breaks l D cy κ g q0 kx v2 v4 v6 v8) (cwV 4 hts g2_X10_breaks rfl rfl rfl (by decide +kernel) ⟨Nat.le_of_ble_eq_true rfl, Nat.le_of_ble_eq_true rfl⟩) hK hT hS hκ kx (by decide) rfl rfl hl.1 rfl (Nat.le_of_ble_eq_true rfl) dL_law_904 hc (fun r9 u10 H locs hpu10 hT hS => ?_)
  refine lv_pop hx hb dL_law_907 rfl ?_
  refine lv_aload_n hx hb dL_law_908 rfl (lv_at hl 1 rfl) ?_
  refine lv_aload_n hx hb dL_law_909 rfl (lv_at hl 3 rfl) ?_
  refine lv_iload_n hx hb dL_law_910 rfl (lv_at hl 0 rfl) ?_
  refine lv_iconst (v := (1 : Int32)) hx hb dL_law_911 (by decide) ?_
  refine lv_iadd hx hb dL_law_912 ?_
  refine lv_topi (fun x911 ex911 => ?_)
  have tx911 : x911.toInt = x3.toInt + (1 : Int32).toInt := by rw [ex911]; exact ti_add (by omega)
  refine va_sld hx hb hX hbl hbA hS (vin (by omega)) dL_law_913 ?_
  refine lv_topi (fun v12 ev12 => ?_)
  obtain rfl : v2 = v12 := by rw [ev2, ev12, ex91, ex911]
  refine lv_aload_n hx hb dL_law_914 rfl (lv_at hl 3 rfl) ?_
  refine lv_iload_n hx hb dL_law_915 rfl (lv_at hl 0 rfl) ?_
  refine lv_iconst (v := (2 : Int32)) hx hb dL_law_916 (by decide) ?_
  refine lv_iadd hx hb dL_law_917 ?_
  refine lv_topi (fun x913 ex913 => ?_)
  have tx913 : x913.toInt = x3.toInt + (2 : Int32).toInt := by rw [ex913]; exact ti_add (by omega)
  refine va_sld hx hb hX hbl hbA hS (vin (by omega)) dL_law_918 ?_
  refine lv_topi (fun v14 ev14 => ?_)
  obtain rfl : v4 = v14 := by rw [ev4, ev14, ex93, ex913]
  refine lv_aload_n hx hb dL_law_919 rfl (lv_at hl 3 rfl) ?_
  refine lv_iload_n hx hb dL_law_920 rfl (lv_at hl 0 rfl) ?_
  refine lv_iconst (v := (3 : Int32)) hx hb dL_law_921 (by decide) ?_
  refine lv_iadd hx hb dL_law_922 ?_
  refine lv_topi (fun x915 ex915 => ?_)
  have tx915 : x915.toInt = x3.toInt + (3 : Int32).toInt := by rw [ex915]; exact ti_add (by omega)
  refine va_sld hx hb hX hbl hbA hS (vin (by omega)) dL_law_923 ?_
  refine lv_topi (fun v16 ev16 => ?_)
  obtain rfl : v6 = v16 := by rw [ev6, ev16, ex95, ex915]
  refine lv_aload_n hx hb dL_law_924 rfl (lv_at hl 3 rfl) ?_
  refine lv_iload_n hx hb dL_law_925 rfl (lv_at hl 0 rfl) ?_
  refine lv_iconst (v := (4 : Int32)) hx hb dL_law_926 (by decide) ?_
  refine lv_iadd hx hb dL_law_927 ?_
  refine lv_topi (fun x917 ex917 => ?_)
  have tx917 : x917.toInt = x3.toInt + (4 : Int32).toInt := by rw [ex917]; exact ti_add (by omega)
  refine va_sld hx hb hX hbl hbA hS (vin (by omega)) dL_law_928 ?_
  refine lv_topi (fun v18 ev18 => ?_)
  obtain rfl : v8 = v18 := by rw [ev8, ev18, ex97, ex917]
  refine lw_Vi (q := (RX11, TX11, 31)) (As := [.int v2, .int v4, .int v6, .int v8]) (rest := []) ⟨hx, hb, hml, hown, hts⟩ (c_X11_breaks l D cy κ u10 q1 km v2 v4 v6 v8) (cwV 4 hts g2_X11_breaks rfl rfl rfl (by decide +kernel) ⟨Nat.le_of_ble_eq_true rfl, Nat.le_of_ble_eq_true rfl⟩) hK hT hS hκ km (by decide) rfl rfl hl.1 rfl (Nat.le_of_ble_eq_true rfl) dL_law_929 hc (fun r19 u20 H locs hpu20 hT hS => ?_)
  refine lv_pop hx hb dL_law_932 rfl ?_
  refine lv_goto (tgt := 1226) hx hb dL_law_933 (by decide) ?_
  exact kend u20 H locs (EQ.cnt hpu20.1 (EQ.cnt hpu10.1.cnt hE)) hT hS
set_option maxHeartbeats 4000000 in
set_option maxRecDepth 100000 in
theorem law_c18 {p : Program} {l : Launch} {e : Env} {s : State} {m : MethodId} {below : List Frame} {meth : Method} {c : Code} {b L : Nat} {xs : Nat → Int32} {cells slots : Nat} {Q : State → Prop} {D : va_G} {cy : Nat → ClassId} {κ : Nat → Nat} {q0 q1 : Nat} (hx : p.tables.exec = Jvm.exec) (hb : c.code = cL_law) (hml : c.maxLocals = 4) (hown : s.vm.findClass RL = some m.cls) (hts : ∀ w ∈ lw_tbl, w.before #[Value.ref b] s = true) (hX : va_X b L xs s s.heap) (hbl : b < s.heap.size) (hK : KK D cy s) (kx : κ q0 = 11) (km : κ q1 = 12) (hκ : ∀ q, κ q ≠ 0 → (fun q : Nat => s.heap.size ≤ q) q) (hc : cells ≤ 600000 ∧ slots ≤ 7302250) {g : Gh} {H : Heap} {locs : List Loc} {ls : Array Slot} {x3 : Int32} (hE : EQ g) (hT : TW D cy κ g H) (hS : va_S (fun q : Nat => s.heap.size ≤ q) s.heap H locs) (hl : lv_has ls 4 [(3, .int x3), (2, .ref q1), (1, .ref q0), (0, .ref b)]) (h3 : 0 ≤ x3.toInt ∧ x3.toInt + 7 ≤ (L : Int)) (hL : L ≤ 3584) (kend : ∀ (g1 : Gh) (H1 : Heap) (locs1 : List Loc), EQ g1 → TW D cy κ g1 H1 → va_S (fun q : Nat => s.heap.size ≤ q) s.heap H1 locs1 → W p l e room_1 s m #[Value.ref b] below meth c H1 locs1 cells slots Q (F0 m 1226 ls [])) : W p l e room_1 s m #[Value.ref b] below meth c H locs cells slots Q (F0 m 936 ls []) := by
  have hbA : ¬ (fun q : Nat => s.heap.size ≤ q) b := Nat.not_le.mpr hbl
  have hc1 : (1 : Int32).toInt = 1 := rfl
  have hc2 : (2 : Int32).toInt = 2 := rfl
  refine lv_aload_n hx hb dL_law_936 rfl (lv_at hl 2 rfl) ?_
  refine lv_aload_n hx hb dL_law_937 rfl (lv_at hl 3 rfl) ?_
  refine lv_iload_n hx hb dL_law_938 rfl (lv_at hl 0 rfl) ?_
  refine lv_iconst (v := (1 : Int32)) hx hb dL_law_939 (by decide) ?_
  refine lv_iadd hx hb dL_law_940 ?_
  refine lv_topi (fun x91 ex91 => ?_)
  have tx91 : x91.toInt = x3.toInt + (1 : Int32).toInt := by rw [ex91]; exact ti_add (by omega)
  refine va_sld hx hb hX hbl hbA hS (vin (by omega)) dL_law_941 ?_
  refine lv_topi (fun v2 ev2 => ?_)
  refine lv_aload_n hx hb dL_law_942 rfl (lv_at hl 3 rfl) ?_
  refine lv_iload_n hx hb dL_law_943 rfl (lv_at hl 0 rfl) ?_
  refine lv_iconst (v := (2 : Int32)) hx hb dL_law_944 (by decide) ?_
  refine lv_iadd hx hb dL_law_945 ?_
  refine lv_topi (fun x93 ex93 => ?_)
  have tx93 : x93.toInt = x3.toInt + (2 : Int32).toInt := by rw [ex93]; exact ti_add (by omega)
  refine va_sld hx hb hX hbl hbA hS (vin (by omega)) dL_law_946 ?_
  refine lv_topi (fun v4 ev4 => ?_)
  refine lw_Vl (q := (RX10, TX10, 11)) (As := [.int v2, .int v4]) (rest := []) ⟨hx, hb, hml, hown, hts⟩ (c_X10_step l D cy κ g q0 kx v2 v4) (cwV 2 hts g2_X10_step rfl rfl rfl (by decide +kernel) ⟨Nat.le_of_ble_eq_true rfl, Nat.le_of_ble_eq_true rfl⟩) hK hT hS hκ kx (by decide) rfl rfl hl.1 rfl (Nat.le_of_ble_eq_true rfl) dL_law_947 hc (fun r5 u6 H locs hpu6 hT hS => ?_)
  refine lv_pop2_2 hx hb dL_law_950 rfl ?_
  refine lv_aload_n hx hb dL_law_951 rfl (lv_at hl 1 rfl) ?_
  refine lv_aload_n hx hb dL_law_952 rfl (lv_at hl 3 rfl) ?_
  refine lv_iload_n hx hb dL_law_953 rfl (lv_at hl 0 rfl) ?_
  refine lv_iconst (v := (1 : Int32)) hx hb dL_law_954 (by decide) ?_
  refine lv_iadd hx hb dL_law_955 ?_
  refine lv_topi (fun x97 ex97 => ?_)
  have tx97 : x97.toInt = x3.toInt + (1 : Int32).toInt := by rw [ex97]; exact ti_add (by omega)
  refine va_sld hx hb hX hbl hbA hS (vin (by omega)) dL_law_956 ?_
  refine lv_topi (fun v8 ev8 => ?_)
  obtain rfl : v2 = v8 := by rw [ev2, ev8, ex91, ex97]
  refine lv_aload_n hx hb dL_law_957 rfl (lv_at hl 3 rfl) ?_
  refine lv_iload_n hx hb dL_law_958 rfl (lv_at hl 0 rfl) ?_
  refine lv_iconst (v := (2 : Int32)) hx hb dL_law_959 (by decide) ?_
  refine lv_iadd hx hb dL_law_960 ?_
  refine lv_topi (fun x99 ex99 => ?_)
  have tx99 : x99.toInt = x3.toInt + (2 : Int32).toInt := by rw [ex99]; exact ti_add (by omega)
  refine va_sld hx hb hX hbl hbA hS (vin (by omega)) dL_law_961 ?_
  refine lv_topi (fun v10 ev10 => ?_)
  obtain rfl : v4 = v10 := by rw [ev4, ev10, ex93, ex99]
  refine lw_Vl (q := (RX11, TX11, 31)) (As := [.int v2, .int v4]) (rest := []) ⟨hx, hb, hml, hown, hts⟩ (c_X11_step l D cy κ u6 q1 km v2 v4) (cwV 2 hts g2_X11_step rfl rfl rfl (by decide +kernel) ⟨Nat.le_of_ble_eq_true rfl, Nat.le_of_ble_eq_true rfl⟩) hK hT hS hκ km (by decide) rfl rfl hl.1 rfl (Nat.le_of_ble_eq_true rfl) dL_law_962 hc (fun r11 u12 H locs hpu12 hT hS => ?_)
  refine lv_pop2_2 hx hb dL_law_965 rfl ?_
  refine lv_goto (tgt := 1226) hx hb dL_law_966 (by decide) ?_
  exact kend u12 H locs (EQ.cnt (cntG.of hpu12.1) (EQ.cnt (cntG.of hpu6.1) hE)) hT hS
set_option maxHeartbeats 4000000 in
set_option maxRecDepth 100000 in
theorem law_c19 {p : Program} {l : Launch} {e : Env} {s : State} {m : MethodId} {below : List Frame} {meth : Method} {c : Code} {b L : Nat} {xs : Nat → Int32} {cells slots : Nat} {Q : State → Prop} {D : va_G} {cy : Nat → ClassId} {κ : Nat → Nat} {q0 q1 : Nat} (hx : p.tables.exec = Jvm.exec) (hb : c.code = cL_law) (hml : c.maxLocals = 4) (hown : s.vm.findClass RL = some m.cls) (hts : ∀ w ∈ lw_tbl, w.before #[Value.ref b] s = true) (hX : va_X b L xs s s.heap) (hbl : b < s.heap.size) (hK : KK D cy s) (kx : κ q0 = 11) (km : κ q1 = 12) (hκ : ∀ q, κ q ≠ 0 → (fun q : Nat => s.heap.size ≤ q) q) (hc : cells ≤ 600000 ∧ slots ≤ 7302250) {g : Gh} {H : Heap} {locs : List Loc} {ls : Array Slot} {x3 : Int32} (hE : EQ g) (hT : TW D cy κ g H) (hS : va_S (fun q : Nat => s.heap.size ≤ q) s.heap H locs) (hl : lv_has ls 4 [(3, .int x3), (2, .ref q1), (1, .ref q0), (0, .ref b)]) (h3 : 0 ≤ x3.toInt ∧ x3.toInt + 7 ≤ (L : Int)) (hL : L ≤ 3584) (kend : ∀ (g1 : Gh) (H1 : Heap) (locs1 : List Loc), EQ g1 → TW D cy κ g1 H1 → va_S (fun q : Nat => s.heap.size ≤ q) s.heap H1 locs1 → W p l e room_1 s m #[Value.ref b] below meth c H1 locs1 cells slots Q (F0 m 1226 ls [])) : W p l e room_1 s m #[Value.ref b] below meth c H locs cells slots Q (F0 m 969 ls []) := by
  have hbA : ¬ (fun q : Nat => s.heap.size ≤ q) b := Nat.not_le.mpr hbl
  refine lv_aload_n hx hb dL_law_969 rfl (lv_at hl 2 rfl) ?_
  refine lw_Vi (q := (RX10, TX10, 11)) (As := []) (rest := []) ⟨hx, hb, hml, hown, hts⟩ (c_X10_last l D cy κ g q0 kx) (cwV 0 hts g2_X10_last rfl rfl rfl (by decide +kernel) ⟨Nat.le_of_ble_eq_true rfl, Nat.le_of_ble_eq_true rfl⟩) hK hT hS hκ kx (by decide) rfl rfl hl.1 rfl (Nat.le_of_ble_eq_true rfl) dL_law_970 hc (fun r1 u2 H locs hpu2 hT hS => ?_)
  refine lv_pop hx hb dL_law_973 rfl ?_
  refine lv_aload_n hx hb dL_law_974 rfl (lv_at hl 1 rfl) ?_
  refine lw_Vi (q := (RX11, TX11, 31)) (As := []) (rest := []) ⟨hx, hb, hml, hown, hts⟩ (c_X11_last l D cy κ u2 q1 km) (cwV 0 hts g2_X11_last rfl rfl rfl (by decide +kernel) ⟨Nat.le_of_ble_eq_true rfl, Nat.le_of_ble_eq_true rfl⟩) hK hT hS hκ km (by decide) rfl rfl hl.1 rfl (Nat.le_of_ble_eq_true rfl) dL_law_975 hc (fun r3 u4 H locs hpu4 hT hS => ?_)
  refine lv_pop hx hb dL_law_978 rfl ?_
  refine lv_goto (tgt := 1226) hx hb dL_law_979 (by decide) ?_
  exact kend u4 H locs (EQ.cnt (cntG.of hpu4.1) (EQ.cnt (cntG.of hpu2.1) hE)) hT hS
set_option maxHeartbeats 4000000 in
set_option maxRecDepth 100000 in
theorem law_c20 {p : Program} {l : Launch} {e : Env} {s : State} {m : MethodId} {below : List Frame} {meth : Method} {c : Code} {b L : Nat} {xs : Nat → Int32} {cells slots : Nat} {Q : State → Prop} {D : va_G} {cy : Nat → ClassId} {κ : Nat → Nat} {q0 q1 : Nat} (hx : p.tables.exec = Jvm.exec) (hb : c.code = cL_law) (hml : c.maxLocals = 4) (hown : s.vm.findClass RL = some m.cls) (hts : ∀ w ∈ lw_tbl, w.before #[Value.ref b] s = true) (hX : va_X b L xs s s.heap) (hbl : b < s.heap.size) (hK : KK D cy s) (kx : κ q0 = 11) (km : κ q1 = 12) (hκ : ∀ q, κ q ≠ 0 → (fun q : Nat => s.heap.size ≤ q) q) (hc : cells ≤ 600000 ∧ slots ≤ 7302250) {g : Gh} {H : Heap} {locs : List Loc} {ls : Array Slot} {x3 : Int32} (hE : EQ g) (hT : TW D cy κ g H) (hS : va_S (fun q : Nat => s.heap.size ≤ q) s.heap H locs) (hl : lv_has ls 4 [(3, .int x3), (2, .ref q1), (1, .ref q0), (0, .ref b)]) (h3 : 0 ≤ x3.toInt ∧ x3.toInt + 7 ≤ (L : Int)) (hL : L ≤ 3584) (kend : ∀ (g1 : Gh) (H1 : Heap) (locs1 : List Loc), EQ g1 → TW D cy κ g1 H1 → va_S (fun q : Nat => s.heap.size ≤ q) s.heap H1 locs1 → W p l e room_1 s m #[Value.ref b] below meth c H1 locs1 cells slots Q (F0 m 1226 ls [])) : W p l e room_1 s m #[Value.ref b] below meth c H locs cells slots Q (F0 m 982 ls []) := by
  have hbA : ¬ (fun q : Nat => s.heap.size ≤ q) b := Nat.not_le.mpr hbl
  have hc1 : (1 : Int32).toInt = 1 := rfl
  have hc2 : (2 : Int32).toInt = 2 := rfl
  have hc3 : (3 : Int32).toInt = 3 := rfl
  refine lv_aload_n hx hb dL_law_982 rfl (lv_at hl 2 rfl) ?_
  refine lv_aload_n hx hb dL_law_983 rfl (lv_at hl 3 rfl) ?_
  refine lv_iload_n hx hb dL_law_984 rfl (lv_at hl 0 rfl) ?_
  refine lv_iconst (v := (1 : Int32)) hx hb dL_law_985 (by decide) ?_
  refine lv_iadd hx hb dL_law_986 ?_
  refine lv_topi (fun x91 ex91 => ?_)
  have tx91 : x91.toInt = x3.toInt + (1 : Int32).toInt := by rw [ex91]; exact ti_add (by omega)
  refine va_sld hx hb hX hbl hbA hS (vin (by omega)) dL_law_987 ?_
  refine lv_topi (fun v2 ev2 => ?_)
  refine lv_aload_n hx hb dL_law_988 rfl (lv_at hl 3 rfl) ?_
  refine lv_iload_n hx hb dL_law_989 rfl (lv_at hl 0 rfl) ?_
  refine lv_iconst (v := (2 : Int32)) hx hb dL_law_990 (by decide) ?_
  refine lv_iadd hx hb dL_law_991 ?_
  refine lv_topi (fun x93 ex93 => ?_)
  have tx93 : x93.toInt = x3.toInt + (2 : Int32).toInt := by rw [ex93]; exact ti_add (by omega)
  refine va_sld hx hb hX hbl hbA hS (vin (by omega)) dL_law_992 ?_
  refine lv_topi (fun v4 ev4 => ?_)
  refine lv_aload_n hx hb dL_law_993 rfl (lv_at hl 3 rfl) ?_
  refine lv_iload_n hx hb dL_law_994 rfl (lv_at hl 0 rfl) ?_
  refine lv_iconst (v := (3 : Int32)) hx hb dL_law_995 (by decide) ?_
  refine lv_iadd hx hb dL_law_996 ?_
  refine lv_topi (fun x95 ex95 => ?_)
  have tx95 : x95.toInt = x3.toInt + (3 : Int32).toInt := by rw [ex95]; exact ti_add (by omega)
  refine va_sld hx hb hX hbl hbA hS (vin (by omega)) dL_law_997 ?_
  refine lv_topi (fun v6 ev6 => ?_)
  refine lw_Vi (q := (RX10, TX10, 11)) (As := [.int v2, .int v4, .int v6]) (rest := []) ⟨hx, hb, hml, hown, hts⟩ (c_X10_rules l D cy κ g q0 kx v2 v4 v6) (cwV 3 hts g2_X10_rules rfl rfl rfl (by decide +kernel) ⟨Nat.le_of_ble_eq_true rfl, Nat.le_of_ble_eq_true rfl⟩) hK hT hS hκ kx (by decide) rfl rfl hl.1 rfl (Nat.le_of_ble_eq_true rfl) dL_law_998 hc (fun r7 u8 H locs hpu8 hT hS => ?_)
  refine lv_pop hx hb dL_law_1001 rfl ?_
  refine lv_aload_n hx hb dL_law_1002 rfl (lv_at hl 1 rfl) ?_
  refine lv_aload_n hx hb dL_law_1003 rfl (lv_at hl 3 rfl) ?_
  refine lv_iload_n hx hb dL_law_1004 rfl (lv_at hl 0 rfl) ?_
  refine lv_iconst (v := (1 : Int32)) hx hb dL_law_1005 (by decide) ?_
  refine lv_iadd hx hb dL_law_1006 ?_
  refine lv_topi (fun x99 ex99 => ?_)
  have tx99 : x99.toInt = x3.toInt + (1 : Int32).toInt := by rw [ex99]; exact ti_add (by omega)
  refine va_sld hx hb hX hbl hbA hS (vin (by omega)) dL_law_1007 ?_
  refine lv_topi (fun v10 ev10 => ?_)
  obtain rfl : v2 = v10 := by rw [ev2, ev10, ex91, ex99]
  refine lv_aload_n hx hb dL_law_1008 rfl (lv_at hl 3 rfl) ?_
  refine lv_iload_n hx hb dL_law_1009 rfl (lv_at hl 0 rfl) ?_
  refine lv_iconst (v := (2 : Int32)) hx hb dL_law_1010 (by decide) ?_
  refine lv_iadd hx hb dL_law_1011 ?_
  refine lv_topi (fun x911 ex911 => ?_)
  have tx911 : x911.toInt = x3.toInt + (2 : Int32).toInt := by rw [ex911]; exact ti_add (by omega)
  refine va_sld hx hb hX hbl hbA hS (vin (by omega)) dL_law_1012 ?_
  refine lv_topi (fun v12 ev12 => ?_)
  obtain rfl : v4 = v12 := by rw [ev4, ev12, ex93, ex911]
  refine lv_aload_n hx hb dL_law_1013 rfl (lv_at hl 3 rfl) ?_
  refine lv_iload_n hx hb dL_law_1014 rfl (lv_at hl 0 rfl) ?_
  refine lv_iconst (v := (3 : Int32)) hx hb dL_law_1015 (by decide) ?_
  refine lv_iadd hx hb dL_law_1016 ?_
  refine lv_topi (fun x913 ex913 => ?_)
  have tx913 : x913.toInt = x3.toInt + (3 : Int32).toInt := by rw [ex913]; exact ti_add (by omega)
  refine va_sld hx hb hX hbl hbA hS (vin (by omega)) dL_law_1017 ?_
  refine lv_topi (fun v14 ev14 => ?_)
  obtain rfl : v6 = v14 := by rw [ev6, ev14, ex95, ex913]
  refine lw_Vi (q := (RX11, TX11, 31)) (As := [.int v2, .int v4, .int v6]) (rest := []) ⟨hx, hb, hml, hown, hts⟩ (c_X11_rules l D cy κ u8 q1 km v2 v4 v6) (cwV 3 hts g2_X11_rules rfl rfl rfl (by decide +kernel) ⟨Nat.le_of_ble_eq_true rfl, Nat.le_of_ble_eq_true rfl⟩) hK hT hS hκ km (by decide) rfl rfl hl.1 rfl (Nat.le_of_ble_eq_true rfl) dL_law_1018 hc (fun r15 u16 H locs hpu16 hT hS => ?_)
  refine lv_pop hx hb dL_law_1021 rfl ?_
  refine lv_goto (tgt := 1226) hx hb dL_law_1022 (by decide) ?_
  exact kend u16 H locs (EQ.cnt (cntG.of hpu16.1) (EQ.cnt (cntG.of hpu8.1) hE)) hT hS
set_option maxHeartbeats 4000000 in
set_option maxRecDepth 100000 in
theorem law_c21 {p : Program} {l : Launch} {e : Env} {s : State} {m : MethodId} {below : List Frame} {meth : Method} {c : Code} {b L : Nat} {xs : Nat → Int32} {cells slots : Nat} {Q : State → Prop} {D : va_G} {cy : Nat → ClassId} {κ : Nat → Nat} {q0 q1 : Nat} (hx : p.tables.exec = Jvm.exec) (hb : c.code = cL_law) (hml : c.maxLocals = 4) (hown : s.vm.findClass RL = some m.cls) (hts : ∀ w ∈ lw_tbl, w.before #[Value.ref b] s = true) (hX : va_X b L xs s s.heap) (hbl : b < s.heap.size) (hK : KK D cy s) (kx : κ q0 = 11) (km : κ q1 = 12) (hκ : ∀ q, κ q ≠ 0 → (fun q : Nat => s.heap.size ≤ q) q) (hc : cells ≤ 600000 ∧ slots ≤ 7302250) {g : Gh} {H : Heap} {locs : List Loc} {ls : Array Slot} {x3 : Int32} (hE : EQ g) (hT : TW D cy κ g H) (hS : va_S (fun q : Nat => s.heap.size ≤ q) s.heap H locs) (hl : lv_has ls 4 [(3, .int x3), (2, .ref q1), (1, .ref q0), (0, .ref b)]) (h3 : 0 ≤ x3.toInt ∧ x3.toInt + 7 ≤ (L : Int)) (hL : L ≤ 3584) (kend : ∀ (g1 : Gh) (H1 : Heap) (locs1 : List Loc), EQ g1 → TW D cy κ g1 H1 → va_S (fun q : Nat => s.heap.size ≤ q) s.heap H1 locs1 → W p l e room_1 s m #[Value.ref b] below meth c H1 locs1 cells slots Q (F0 m 1226 ls [])) : W p l e room_1 s m #[Value.ref b] below meth c H locs cells slots Q (F0 m 1025 ls []) := by
  have hbA : ¬ (fun q : Nat => s.heap.size ≤ q) b := Nat.not_le.mpr hbl
  have hc1 : (1 : Int32).toInt = 1 := rfl
  refine lv_aload_n hx hb dL_law_1025 rfl (lv_at hl 2 rfl) ?_
  refine lv_aload_n hx hb dL_law_1026 rfl (lv_at hl 3 rfl) ?_
  refine lv_iload_n hx hb dL_law_1027 rfl (lv_at hl 0 rfl) ?_
  refine lv_iconst (v := (1 : Int32)) hx hb dL_law_1028 (by decide) ?_
  refine lv_iadd hx hb dL_law_1029 ?_
  refine lv_topi (fun x91 ex91 => ?_)
  have tx91 : x91.toInt = x3.toInt + (1 : Int32).toInt := by rw [ex91]; exact ti_add (by omega)
  refine va_sld hx hb hX hbl hbA hS (vin (by omega)) dL_law_1030 ?_
  refine lv_topi (fun v2 ev2 => ?_)
  refine lw_Vi (q := (RX10, TX10, 11)) (As := [.int v2]) (rest := []) ⟨hx, hb, hml, hown, hts⟩ (c_X10_rule l D cy κ g q0 kx v2) (cwV 1 hts g2_X10_rule rfl rfl rfl (by decide +kernel) ⟨Nat.le_of_ble_eq_true rfl, Nat.le_of_ble_eq_true rfl⟩) hK hT hS hκ kx (by decide) rfl rfl hl.1 rfl (Nat.le_of_ble_eq_true rfl) dL_law_1031 hc (fun r3 u4 H locs hpu4 hT hS => ?_)
  refine lv_pop hx hb dL_law_1034 rfl ?_
  refine lv_aload_n hx hb dL_law_1035 rfl (lv_at hl 1 rfl) ?_
  refine lv_aload_n hx hb dL_law_1036 rfl (lv_at hl 3 rfl) ?_
  refine lv_iload_n hx hb dL_law_1037 rfl (lv_at hl 0 rfl) ?_
  refine lv_iconst (v := (1 : Int32)) hx hb dL_law_1038 (by decide) ?_
  refine lv_iadd hx hb dL_law_1039 ?_
  refine lv_topi (fun x95 ex95 => ?_)
  have tx95 : x95.toInt = x3.toInt + (1 : Int32).toInt := by rw [ex95]; exact ti_add (by omega)
  refine va_sld hx hb hX hbl hbA hS (vin (by omega)) dL_law_1040 ?_
  refine lv_topi (fun v6 ev6 => ?_)
  obtain rfl : v2 = v6 := by rw [ev2, ev6, ex91, ex95]
  refine lw_Vi (q := (RX11, TX11, 31)) (As := [.int v2]) (rest := []) ⟨hx, hb, hml, hown, hts⟩ (c_X11_rule l D cy κ u4 q1 km v2) (cwV 1 hts g2_X11_rule rfl rfl rfl (by decide +kernel) ⟨Nat.le_of_ble_eq_true rfl, Nat.le_of_ble_eq_true rfl⟩) hK hT hS hκ km (by decide) rfl rfl hl.1 rfl (Nat.le_of_ble_eq_true rfl) dL_law_1041 hc (fun r7 u8 H locs hpu8 hT hS => ?_)
  refine lv_pop hx hb dL_law_1044 rfl ?_
  refine lv_goto (tgt := 1226) hx hb dL_law_1045 (by decide) ?_
  exact kend u8 H locs (EQ.cnt (cntG.of hpu8.1) (EQ.cnt (cntG.of hpu4.1) hE)) hT hS
set_option maxHeartbeats 4000000 in
set_option maxRecDepth 100000 in
theorem law_c22 {p : Program} {l : Launch} {e : Env} {s : State} {m : MethodId} {below : List Frame} {meth : Method} {c : Code} {b L : Nat} {xs : Nat → Int32} {cells slots : Nat} {Q : State → Prop} {D : va_G} {cy : Nat → ClassId} {κ : Nat → Nat} {q0 q1 : Nat} (hx : p.tables.exec = Jvm.exec) (hb : c.code = cL_law) (hml : c.maxLocals = 4) (hown : s.vm.findClass RL = some m.cls) (hts : ∀ w ∈ lw_tbl, w.before #[Value.ref b] s = true) (hX : va_X b L xs s s.heap) (hbl : b < s.heap.size) (hK : KK D cy s) (kx : κ q0 = 11) (km : κ q1 = 12) (hκ : ∀ q, κ q ≠ 0 → (fun q : Nat => s.heap.size ≤ q) q) (hc : cells ≤ 600000 ∧ slots ≤ 7302250) {g : Gh} {H : Heap} {locs : List Loc} {ls : Array Slot} {x3 : Int32} (hE : EQ g) (hT : TW D cy κ g H) (hS : va_S (fun q : Nat => s.heap.size ≤ q) s.heap H locs) (hl : lv_has ls 4 [(3, .int x3), (2, .ref q1), (1, .ref q0), (0, .ref b)]) (h3 : 0 ≤ x3.toInt ∧ x3.toInt + 7 ≤ (L : Int)) (hL : L ≤ 3584) (kend : ∀ (g1 : Gh) (H1 : Heap) (locs1 : List Loc), EQ g1 → TW D cy κ g1 H1 → va_S (fun q : Nat => s.heap.size ≤ q) s.heap H1 locs1 → W p l e room_1 s m #[Value.ref b] below meth c H1 locs1 cells slots Q (F0 m 1226 ls [])) : W p l e room_1 s m #[Value.ref b] below meth c H locs cells slots Q (F0 m 1048 ls []) := by
  have hbA : ¬ (fun q : Nat => s.heap.size ≤ q) b := Nat.not_le.mpr hbl
  have hc1 : (1 : Int32).toInt = 1 := rfl
  have hc2 : (2 : Int32).toInt = 2 := rfl
  have hc3 : (3 : Int32).toInt = 3 := rfl
  refine lv_aload_n hx hb dL_law_1048 rfl (lv_at hl 2 rfl) ?_
  refine lv_aload_n hx hb dL_law_1049 rfl (lv_at hl 3 rfl) ?_
  refine lv_iload_n hx hb dL_law_1050 rfl (lv_at hl 0 rfl) ?_
  refine lv_iconst (v := (1 : Int32)) hx hb dL_law_1051 (by decide) ?_
  refine lv_iadd hx hb dL_law_1052 ?_
  refine lv_topi (fun x91 ex91 => ?_)
  have tx91 : x91.toInt = x3.toInt + (1 : Int32).toInt := by rw [ex91]; exact ti_add (by omega)
  refine va_sld hx hb hX hbl hbA hS (vin (by omega)) dL_law_1053 ?_
  refine lv_topi (fun v2 ev2 => ?_)
  refine lv_aload_n hx hb dL_law_1054 rfl (lv_at hl 3 rfl) ?_
  refine lv_iload_n hx hb dL_law_1055 rfl (lv_at hl 0 rfl) ?_
  refine lv_iconst (v := (2 : Int32)) hx hb dL_law_1056 (by decide) ?_
  refine lv_iadd hx hb dL_law_1057 ?_
  refine lv_topi (fun x93 ex93 => ?_)
  have tx93 : x93.toInt = x3.toInt + (2 : Int32).toInt := by rw [ex93]; exact ti_add (by omega)
  refine va_sld hx hb hX hbl hbA hS (vin (by omega)) dL_law_1058 ?_
  refine lv_topi (fun v4 ev4 => ?_)
  refine lv_aload_n hx hb dL_law_1059 rfl (lv_at hl 3 rfl) ?_
  refine lv_iload_n hx hb dL_law_1060 rfl (lv_at hl 0 rfl) ?_
  refine lv_iconst (v := (3 : Int32)) hx hb dL_law_1061 (by decide) ?_
  refine lv_iadd hx hb dL_law_1062 ?_
  refine lv_topi (fun x95 ex95 => ?_)
  have tx95 : x95.toInt = x3.toInt + (3 : Int32).toInt := by rw [ex95]; exact ti_add (by omega)
  refine va_sld hx hb hX hbl hbA hS (vin (by omega)) dL_law_1063 ?_
  refine lv_topi (fun v6 ev6 => ?_)
  refine lw_Vi (q := (RX10, TX10, 11)) (As := [.int v2, .int v4, .int v6]) (rest := []) ⟨hx, hb, hml, hown, hts⟩ (c_X10_load l D cy κ g q0 kx v2 v4 v6) (cwV 3 hts g2_X10_load rfl rfl rfl (by decide +kernel) ⟨Nat.le_of_ble_eq_true rfl, Nat.le_of_ble_eq_true rfl⟩) hK hT hS hκ kx (by decide) rfl rfl hl.1 rfl (Nat.le_of_ble_eq_true rfl) dL_law_1064 hc (fun r7 u8 H locs hpu8 hT hS => ?_)
  refine lv_pop hx hb dL_law_1067 rfl ?_
  refine lv_aload_n hx hb dL_law_1068 rfl (lv_at hl 1 rfl) ?_
  refine lv_aload_n hx hb dL_law_1069 rfl (lv_at hl 3 rfl) ?_
  refine lv_iload_n hx hb dL_law_1070 rfl (lv_at hl 0 rfl) ?_
  refine lv_iconst (v := (1 : Int32)) hx hb dL_law_1071 (by decide) ?_
  refine lv_iadd hx hb dL_law_1072 ?_
  refine lv_topi (fun x99 ex99 => ?_)
  have tx99 : x99.toInt = x3.toInt + (1 : Int32).toInt := by rw [ex99]; exact ti_add (by omega)
  refine va_sld hx hb hX hbl hbA hS (vin (by omega)) dL_law_1073 ?_
  refine lv_topi (fun v10 ev10 => ?_)
  obtain rfl : v2 = v10 := by rw [ev2, ev10, ex91, ex99]
  refine lv_aload_n hx hb dL_law_1074 rfl (lv_at hl 3 rfl) ?_
  refine lv_iload_n hx hb dL_law_1075 rfl (lv_at hl 0 rfl) ?_
  refine lv_iconst (v := (2 : Int32)) hx hb dL_law_1076 (by decide) ?_
  refine lv_iadd hx hb dL_law_1077 ?_
  refine lv_topi (fun x911 ex911 => ?_)
  have tx911 : x911.toInt = x3.toInt + (2 : Int32).toInt := by rw [ex911]; exact ti_add (by omega)
  refine va_sld hx hb hX hbl hbA hS (vin (by omega)) dL_law_1078 ?_
  refine lv_topi (fun v12 ev12 => ?_)
  obtain rfl : v4 = v12 := by rw [ev4, ev12, ex93, ex911]
  refine lv_aload_n hx hb dL_law_1079 rfl (lv_at hl 3 rfl) ?_
  refine lv_iload_n hx hb dL_law_1080 rfl (lv_at hl 0 rfl) ?_
  refine lv_iconst (v := (3 : Int32)) hx hb dL_law_1081 (by decide) ?_
  refine lv_iadd hx hb dL_law_1082 ?_
  refine lv_topi (fun x913 ex913 => ?_)
  have tx913 : x913.toInt = x3.toInt + (3 : Int32).toInt := by rw [ex913]; exact ti_add (by omega)
  refine va_sld hx hb hX hbl hbA hS (vin (by omega)) dL_law_1083 ?_
  refine lv_topi (fun v14 ev14 => ?_)
  obtain rfl : v6 = v14 := by rw [ev6, ev14, ex95, ex913]
  refine lw_Vi (q := (RX11, TX11, 31)) (As := [.int v2, .int v4, .int v6]) (rest := []) ⟨hx, hb, hml, hown, hts⟩ (c_X11_load l D cy κ u8 q1 km v2 v4 v6) (cwV 3 hts g2_X11_load rfl rfl rfl (by decide +kernel) ⟨Nat.le_of_ble_eq_true rfl, Nat.le_of_ble_eq_true rfl⟩) hK hT hS hκ km (by decide) rfl rfl hl.1 rfl (Nat.le_of_ble_eq_true rfl) dL_law_1084 hc (fun r15 u16 H locs hpu16 hT hS => ?_)
  refine lv_pop hx hb dL_law_1087 rfl ?_
  refine lv_goto (tgt := 1226) hx hb dL_law_1088 (by decide) ?_
  exact kend u16 H locs (eq_load (g := g) (u := u8) (v := u16) (r := r7) (t := r15) hpu8 hpu16 hE).1 hT hS
set_option maxHeartbeats 4000000 in
set_option maxRecDepth 100000 in
theorem law_c23 {p : Program} {l : Launch} {e : Env} {s : State} {m : MethodId} {below : List Frame} {meth : Method} {c : Code} {b L : Nat} {xs : Nat → Int32} {cells slots : Nat} {Q : State → Prop} {D : va_G} {cy : Nat → ClassId} {κ : Nat → Nat} {q0 q1 : Nat} (hx : p.tables.exec = Jvm.exec) (hb : c.code = cL_law) (hml : c.maxLocals = 4) (hown : s.vm.findClass RL = some m.cls) (hts : ∀ w ∈ lw_tbl, w.before #[Value.ref b] s = true) (hX : va_X b L xs s s.heap) (hbl : b < s.heap.size) (hK : KK D cy s) (kx : κ q0 = 11) (km : κ q1 = 12) (hκ : ∀ q, κ q ≠ 0 → (fun q : Nat => s.heap.size ≤ q) q) (hc : cells ≤ 600000 ∧ slots ≤ 7302250) {g : Gh} {H : Heap} {locs : List Loc} {ls : Array Slot} {x3 : Int32} (hE : EQ g) (hT : TW D cy κ g H) (hS : va_S (fun q : Nat => s.heap.size ≤ q) s.heap H locs) (hl : lv_has ls 4 [(3, .int x3), (2, .ref q1), (1, .ref q0), (0, .ref b)]) (h3 : 0 ≤ x3.toInt ∧ x3.toInt + 7 ≤ (L : Int)) (hL : L ≤ 3584) (kend : ∀ (g1 : Gh) (H1 : Heap) (locs1 : List Loc), EQ g1 → TW D cy κ g1 H1 → va_S (fun q : Nat => s.heap.size ≤ q) s.heap H1 locs1 → W p l e room_1 s m #[Value.ref b] below meth c H1 locs1 cells slots Q (F0 m 1226 ls [])) : W p l e room_1 s m #[Value.ref b] below meth c H locs cells slots Q (F0 m 1091 ls []) := by
  have hbA : ¬ (fun q : Nat => s.heap.size ≤ q) b := Nat.not_le.mpr hbl
  refine lv_aload_n hx hb dL_law_1091 rfl (lv_at hl 2 rfl) ?_
  refine lw_Vi (q := (RX10, TX10, 11)) (As := []) (rest := []) ⟨hx, hb, hml, hown, hts⟩ (c_X10_unload l D cy κ g q0 kx) (cwV 0 hts g2_X10_unload rfl rfl rfl (by decide +kernel) ⟨Nat.le_of_ble_eq_true rfl, Nat.le_of_ble_eq_true rfl⟩) hK hT hS hκ kx (by decide) rfl rfl hl.1 rfl (Nat.le_of_ble_eq_true rfl) dL_law_1092 hc (fun r1 u2 H locs hpu2 hT hS => ?_)
  refine lv_pop hx hb dL_law_1095 rfl ?_
  refine lv_aload_n hx hb dL_law_1096 rfl (lv_at hl 1 rfl) ?_
  refine lw_Vi (q := (RX11, TX11, 31)) (As := []) (rest := []) ⟨hx, hb, hml, hown, hts⟩ (c_X11_unload l D cy κ u2 q1 km) (cwV 0 hts g2_X11_unload rfl rfl rfl (by decide +kernel) ⟨Nat.le_of_ble_eq_true rfl, Nat.le_of_ble_eq_true rfl⟩) hK hT hS hκ km (by decide) rfl rfl hl.1 rfl (Nat.le_of_ble_eq_true rfl) dL_law_1097 hc (fun r3 u4 H locs hpu4 hT hS => ?_)
  refine lv_pop hx hb dL_law_1100 rfl ?_
  refine lv_goto (tgt := 1226) hx hb dL_law_1101 (by decide) ?_
  exact kend u4 H locs (eq_unload (z0 := 0) (g := g) (u := u2) (v := u4) (r := r1) (t := r3) hpu2 hpu4 hE).1 hT hS
set_option maxHeartbeats 4000000 in
set_option maxRecDepth 100000 in
theorem law_c24 {p : Program} {l : Launch} {e : Env} {s : State} {m : MethodId} {below : List Frame} {meth : Method} {c : Code} {b L : Nat} {xs : Nat → Int32} {cells slots : Nat} {Q : State → Prop} {D : va_G} {cy : Nat → ClassId} {κ : Nat → Nat} {q0 q1 : Nat} (hx : p.tables.exec = Jvm.exec) (hb : c.code = cL_law) (hml : c.maxLocals = 4) (hown : s.vm.findClass RL = some m.cls) (hts : ∀ w ∈ lw_tbl, w.before #[Value.ref b] s = true) (hX : va_X b L xs s s.heap) (hbl : b < s.heap.size) (hK : KK D cy s) (kx : κ q0 = 11) (km : κ q1 = 12) (hκ : ∀ q, κ q ≠ 0 → (fun q : Nat => s.heap.size ≤ q) q) (hc : cells ≤ 600000 ∧ slots ≤ 7302250) {g : Gh} {H : Heap} {locs : List Loc} {ls : Array Slot} {x3 : Int32} (hE : EQ g) (hT : TW D cy κ g H) (hS : va_S (fun q : Nat => s.heap.size ≤ q) s.heap H locs) (hl : lv_has ls 4 [(3, .int x3), (2, .ref q1), (1, .ref q0), (0, .ref b)]) (h3 : 0 ≤ x3.toInt ∧ x3.toInt + 7 ≤ (L : Int)) (hL : L ≤ 3584) (kend : ∀ (g1 : Gh) (H1 : Heap) (locs1 : List Loc), EQ g1 → TW D cy κ g1 H1 → va_S (fun q : Nat => s.heap.size ≤ q) s.heap H1 locs1 → W p l e room_1 s m #[Value.ref b] below meth c H1 locs1 cells slots Q (F0 m 1226 ls [])) : W p l e room_1 s m #[Value.ref b] below meth c H locs cells slots Q (F0 m 1104 ls []) := by
  have hbA : ¬ (fun q : Nat => s.heap.size ≤ q) b := Nat.not_le.mpr hbl
  have hc1 : (1 : Int32).toInt = 1 := rfl
  have hc2 : (2 : Int32).toInt = 2 := rfl
  refine lv_aload_n hx hb dL_law_1104 rfl (lv_at hl 2 rfl) ?_
  refine lv_aload_n hx hb dL_law_1105 rfl (lv_at hl 3 rfl) ?_
  refine lv_iload_n hx hb dL_law_1106 rfl (lv_at hl 0 rfl) ?_
  refine lv_iconst (v := (1 : Int32)) hx hb dL_law_1107 (by decide) ?_
  refine lv_iadd hx hb dL_law_1108 ?_
  refine lv_topi (fun x91 ex91 => ?_)
  have tx91 : x91.toInt = x3.toInt + (1 : Int32).toInt := by rw [ex91]; exact ti_add (by omega)
  refine va_sld hx hb hX hbl hbA hS (vin (by omega)) dL_law_1109 ?_
  refine lv_topi (fun v2 ev2 => ?_)
  refine lv_aload_n hx hb dL_law_1110 rfl (lv_at hl 3 rfl) ?_
  refine lv_iload_n hx hb dL_law_1111 rfl (lv_at hl 0 rfl) ?_
  refine lv_iconst (v := (2 : Int32)) hx hb dL_law_1112 (by decide) ?_
  refine lv_iadd hx hb dL_law_1113 ?_
  refine lv_topi (fun x93 ex93 => ?_)
  have tx93 : x93.toInt = x3.toInt + (2 : Int32).toInt := by rw [ex93]; exact ti_add (by omega)
  refine va_sld hx hb hX hbl hbA hS (vin (by omega)) dL_law_1114 ?_
  refine lv_topi (fun v4 ev4 => ?_)
  refine lw_Vi (q := (RX10, TX10, 11)) (As := [.int v2, .int v4]) (rest := []) ⟨hx, hb, hml, hown, hts⟩ (c_X10_fewest l D cy κ g q0 kx v2 v4) (cwV 2 hts g2_X10_fewest rfl rfl rfl (by decide +kernel) ⟨Nat.le_of_ble_eq_true rfl, Nat.le_of_ble_eq_true rfl⟩) hK hT hS hκ kx (by decide) rfl rfl hl.1 rfl (Nat.le_of_ble_eq_true rfl) dL_law_1115 hc (fun r5 u6 H locs hpu6 hT hS => ?_)
  refine lv_pop hx hb dL_law_1118 rfl ?_
  refine lv_aload_n hx hb dL_law_1119 rfl (lv_at hl 1 rfl) ?_
  refine lv_aload_n hx hb dL_law_1120 rfl (lv_at hl 3 rfl) ?_
  refine lv_iload_n hx hb dL_law_1121 rfl (lv_at hl 0 rfl) ?_
  refine lv_iconst (v := (1 : Int32)) hx hb dL_law_1122 (by decide) ?_
  refine lv_iadd hx hb dL_law_1123 ?_
  refine lv_topi (fun x97 ex97 => ?_)
  have tx97 : x97.toInt = x3.toInt + (1 : Int32).toInt := by rw [ex97]; exact ti_add (by omega)
  refine va_sld hx hb hX hbl hbA hS (vin (by omega)) dL_law_1124 ?_
  refine lv_topi (fun v8 ev8 => ?_)
  obtain rfl : v2 = v8 := by rw [ev2, ev8, ex91, ex97]
  refine lv_aload_n hx hb dL_law_1125 rfl (lv_at hl 3 rfl) ?_
  refine lv_iload_n hx hb dL_law_1126 rfl (lv_at hl 0 rfl) ?_
  refine lv_iconst (v := (2 : Int32)) hx hb dL_law_1127 (by decide) ?_
  refine lv_iadd hx hb dL_law_1128 ?_
  refine lv_topi (fun x99 ex99 => ?_)
  have tx99 : x99.toInt = x3.toInt + (2 : Int32).toInt := by rw [ex99]; exact ti_add (by omega)
  refine va_sld hx hb hX hbl hbA hS (vin (by omega)) dL_law_1129 ?_
  refine lv_topi (fun v10 ev10 => ?_)
  obtain rfl : v4 = v10 := by rw [ev4, ev10, ex93, ex99]
  refine lw_Vi (q := (RX11, TX11, 31)) (As := [.int v2, .int v4]) (rest := []) ⟨hx, hb, hml, hown, hts⟩ (c_X11_fewest l D cy κ u6 q1 km v2 v4) (cwV 2 hts g2_X11_fewest rfl rfl rfl (by decide +kernel) ⟨Nat.le_of_ble_eq_true rfl, Nat.le_of_ble_eq_true rfl⟩) hK hT hS hκ km (by decide) rfl rfl hl.1 rfl (Nat.le_of_ble_eq_true rfl) dL_law_1130 hc (fun r11 u12 H locs hpu12 hT hS => ?_)
  refine lv_pop hx hb dL_law_1133 rfl ?_
  refine lv_goto (tgt := 1226) hx hb dL_law_1134 (by decide) ?_
  exact kend u12 H locs (EQ.cnt hpu12.1 (EQ.cnt hpu6.1.cnt hE)) hT hS
set_option maxHeartbeats 4000000 in
set_option maxRecDepth 100000 in
theorem law_c25 {p : Program} {l : Launch} {e : Env} {s : State} {m : MethodId} {below : List Frame} {meth : Method} {c : Code} {b L : Nat} {xs : Nat → Int32} {cells slots : Nat} {Q : State → Prop} {D : va_G} {cy : Nat → ClassId} {κ : Nat → Nat} {q0 q1 : Nat} (hx : p.tables.exec = Jvm.exec) (hb : c.code = cL_law) (hml : c.maxLocals = 4) (hown : s.vm.findClass RL = some m.cls) (hts : ∀ w ∈ lw_tbl, w.before #[Value.ref b] s = true) (hX : va_X b L xs s s.heap) (hbl : b < s.heap.size) (hK : KK D cy s) (kx : κ q0 = 11) (km : κ q1 = 12) (hκ : ∀ q, κ q ≠ 0 → (fun q : Nat => s.heap.size ≤ q) q) (hc : cells ≤ 600000 ∧ slots ≤ 7302250) {g : Gh} {H : Heap} {locs : List Loc} {ls : Array Slot} {x3 : Int32} (hE : EQ g) (hT : TW D cy κ g H) (hS : va_S (fun q : Nat => s.heap.size ≤ q) s.heap H locs) (hl : lv_has ls 4 [(3, .int x3), (2, .ref q1), (1, .ref q0), (0, .ref b)]) (h3 : 0 ≤ x3.toInt ∧ x3.toInt + 7 ≤ (L : Int)) (hL : L ≤ 3584) (kend : ∀ (g1 : Gh) (H1 : Heap) (locs1 : List Loc), EQ g1 → TW D cy κ g1 H1 → va_S (fun q : Nat => s.heap.size ≤ q) s.heap H1 locs1 → W p l e room_1 s m #[Value.ref b] below meth c H1 locs1 cells slots Q (F0 m 1226 ls [])) : W p l e room_1 s m #[Value.ref b] below meth c H locs cells slots Q (F0 m 1137 ls []) := by
  have hbA : ¬ (fun q : Nat => s.heap.size ≤ q) b := Nat.not_le.mpr hbl
  have hc1 : (1 : Int32).toInt = 1 := rfl
  have hc2 : (2 : Int32).toInt = 2 := rfl
  refine lv_aload_n hx hb dL_law_1137 rfl (lv_at hl 2 rfl) ?_
  refine lv_aload_n hx hb dL_law_1138 rfl (lv_at hl 3 rfl) ?_
  refine lv_iload_n hx hb dL_law_1139 rfl (lv_at hl 0 rfl) ?_
  refine lv_iconst (v := (1 : Int32)) hx hb dL_law_1140 (by decide) ?_
  refine lv_iadd hx hb dL_law_1141 ?_
  refine lv_topi (fun x91 ex91 => ?_)
  have tx91 : x91.toInt = x3.toInt + (1 : Int32).toInt := by rw [ex91]; exact ti_add (by omega)
  refine va_sld hx hb hX hbl hbA hS (vin (by omega)) dL_law_1142 ?_
  refine lv_topi (fun v2 ev2 => ?_)
  refine lv_aload_n hx hb dL_law_1143 rfl (lv_at hl 3 rfl) ?_
  refine lv_iload_n hx hb dL_law_1144 rfl (lv_at hl 0 rfl) ?_
  refine lv_iconst (v := (2 : Int32)) hx hb dL_law_1145 (by decide) ?_
  refine lv_iadd hx hb dL_law_1146 ?_
  refine lv_topi (fun x93 ex93 => ?_)
  have tx93 : x93.toInt = x3.toInt + (2 : Int32).toInt := by rw [ex93]; exact ti_add (by omega)
  refine va_sld hx hb hX hbl hbA hS (vin (by omega)) dL_law_1147 ?_
  refine lv_topi (fun v4 ev4 => ?_)
  refine lw_Vi (q := (RX10, TX10, 11)) (As := [.int v2, .int v4]) (rest := []) ⟨hx, hb, hml, hown, hts⟩ (c_X10_comes l D cy κ g q0 kx v2 v4) (cwV 2 hts g2_X10_comes rfl rfl rfl (by decide +kernel) ⟨Nat.le_of_ble_eq_true rfl, Nat.le_of_ble_eq_true rfl⟩) hK hT hS hκ kx (by decide) rfl rfl hl.1 rfl (Nat.le_of_ble_eq_true rfl) dL_law_1148 hc (fun r5 u6 H locs hpu6 hT hS => ?_)
  refine lv_pop hx hb dL_law_1151 rfl ?_
  refine lv_aload_n hx hb dL_law_1152 rfl (lv_at hl 1 rfl) ?_
  refine lv_aload_n hx hb dL_law_1153 rfl (lv_at hl 3 rfl) ?_
  refine lv_iload_n hx hb dL_law_1154 rfl (lv_at hl 0 rfl) ?_
  refine lv_iconst (v := (1 : Int32)) hx hb dL_law_1155 (by decide) ?_
  refine lv_iadd hx hb dL_law_1156 ?_
  refine lv_topi (fun x97 ex97 => ?_)
  have tx97 : x97.toInt = x3.toInt + (1 : Int32).toInt := by rw [ex97]; exact ti_add (by omega)
  refine va_sld hx hb hX hbl hbA hS (vin (by omega)) dL_law_1157 ?_
  refine lv_topi (fun v8 ev8 => ?_)
  obtain rfl : v2 = v8 := by rw [ev2, ev8, ex91, ex97]
  refine lv_aload_n hx hb dL_law_1158 rfl (lv_at hl 3 rfl) ?_
  refine lv_iload_n hx hb dL_law_1159 rfl (lv_at hl 0 rfl) ?_
  refine lv_iconst (v := (2 : Int32)) hx hb dL_law_1160 (by decide) ?_
  refine lv_iadd hx hb dL_law_1161 ?_
  refine lv_topi (fun x99 ex99 => ?_)
  have tx99 : x99.toInt = x3.toInt + (2 : Int32).toInt := by rw [ex99]; exact ti_add (by omega)
  refine va_sld hx hb hX hbl hbA hS (vin (by omega)) dL_law_1162 ?_
  refine lv_topi (fun v10 ev10 => ?_)
  obtain rfl : v4 = v10 := by rw [ev4, ev10, ex93, ex99]
  refine lw_Vi (q := (RX11, TX11, 31)) (As := [.int v2, .int v4]) (rest := []) ⟨hx, hb, hml, hown, hts⟩ (c_X11_comes l D cy κ u6 q1 km v2 v4) (cwV 2 hts g2_X11_comes rfl rfl rfl (by decide +kernel) ⟨Nat.le_of_ble_eq_true rfl, Nat.le_of_ble_eq_true rfl⟩) hK hT hS hκ km (by decide) rfl rfl hl.1 rfl (Nat.le_of_ble_eq_true rfl) dL_law_1163 hc (fun r11 u12 H locs hpu12 hT hS => ?_)
  refine lv_pop hx hb dL_law_1166 rfl ?_
  refine lv_goto (tgt := 1226) hx hb dL_law_1167 (by decide) ?_
  exact kend u12 H locs (EQ.cnt (cntG.of hpu12.1) (EQ.cnt (cntG.of hpu6.1) hE)) hT hS
set_option maxHeartbeats 4000000 in
set_option maxRecDepth 100000 in
theorem law_c26 {p : Program} {l : Launch} {e : Env} {s : State} {m : MethodId} {below : List Frame} {meth : Method} {c : Code} {b L : Nat} {xs : Nat → Int32} {cells slots : Nat} {Q : State → Prop} {D : va_G} {cy : Nat → ClassId} {κ : Nat → Nat} {q0 q1 : Nat} (hx : p.tables.exec = Jvm.exec) (hb : c.code = cL_law) (hml : c.maxLocals = 4) (hown : s.vm.findClass RL = some m.cls) (hts : ∀ w ∈ lw_tbl, w.before #[Value.ref b] s = true) (hX : va_X b L xs s s.heap) (hbl : b < s.heap.size) (hK : KK D cy s) (kx : κ q0 = 11) (km : κ q1 = 12) (hκ : ∀ q, κ q ≠ 0 → (fun q : Nat => s.heap.size ≤ q) q) (hc : cells ≤ 600000 ∧ slots ≤ 7302250) {g : Gh} {H : Heap} {locs : List Loc} {ls : Array Slot} {x3 : Int32} (hE : EQ g) (hT : TW D cy κ g H) (hS : va_S (fun q : Nat => s.heap.size ≤ q) s.heap H locs) (hl : lv_has ls 4 [(3, .int x3), (2, .ref q1), (1, .ref q0), (0, .ref b)]) (h3 : 0 ≤ x3.toInt ∧ x3.toInt + 7 ≤ (L : Int)) (hL : L ≤ 3584) (kend : ∀ (g1 : Gh) (H1 : Heap) (locs1 : List Loc), EQ g1 → TW D cy κ g1 H1 → va_S (fun q : Nat => s.heap.size ≤ q) s.heap H1 locs1 → W p l e room_1 s m #[Value.ref b] below meth c H1 locs1 cells slots Q (F0 m 1226 ls [])) : W p l e room_1 s m #[Value.ref b] below meth c H locs cells slots Q (F0 m 1170 ls []) := by
  have hbA : ¬ (fun q : Nat => s.heap.size ≤ q) b := Nat.not_le.mpr hbl
  have hc1 : (1 : Int32).toInt = 1 := rfl
  have hc2 : (2 : Int32).toInt = 2 := rfl
  refine lv_aload_n hx hb dL_law_1170 rfl (lv_at hl 2 rfl) ?_
  refine lv_aload_n hx hb dL_law_1171 rfl (lv_at hl 3 rfl) ?_
  refine lv_iload_n hx hb dL_law_1172 rfl (lv_at hl 0 rfl) ?_
  refine lv_iconst (v := (1 : Int32)) hx hb dL_law_1173 (by decide) ?_
  refine lv_iadd hx hb dL_law_1174 ?_
  refine lv_topi (fun x91 ex91 => ?_)
  have tx91 : x91.toInt = x3.toInt + (1 : Int32).toInt := by rw [ex91]; exact ti_add (by omega)
  refine va_sld hx hb hX hbl hbA hS (vin (by omega)) dL_law_1175 ?_
  refine lv_topi (fun v2 ev2 => ?_)
  refine lv_aload_n hx hb dL_law_1176 rfl (lv_at hl 3 rfl) ?_
  refine lv_iload_n hx hb dL_law_1177 rfl (lv_at hl 0 rfl) ?_
  refine lv_iconst (v := (2 : Int32)) hx hb dL_law_1178 (by decide) ?_
  refine lv_iadd hx hb dL_law_1179 ?_
  refine lv_topi (fun x93 ex93 => ?_)
  have tx93 : x93.toInt = x3.toInt + (2 : Int32).toInt := by rw [ex93]; exact ti_add (by omega)
  refine va_sld hx hb hX hbl hbA hS (vin (by omega)) dL_law_1180 ?_
  refine lv_topi (fun v4 ev4 => ?_)
  refine lw_Vi (q := (RX10, TX10, 11)) (As := [.int v2, .int v4]) (rest := []) ⟨hx, hb, hml, hown, hts⟩ (c_X10_drop l D cy κ g q0 kx v2 v4) (cwV 2 hts g2_X10_drop rfl rfl rfl (by decide +kernel) ⟨Nat.le_of_ble_eq_true rfl, Nat.le_of_ble_eq_true rfl⟩) hK hT hS hκ kx (by decide) rfl rfl hl.1 rfl (Nat.le_of_ble_eq_true rfl) dL_law_1181 hc (fun r5 u6 H locs hpu6 hT hS => ?_)
  refine lv_pop hx hb dL_law_1184 rfl ?_
  refine lv_aload_n hx hb dL_law_1185 rfl (lv_at hl 1 rfl) ?_
  refine lv_aload_n hx hb dL_law_1186 rfl (lv_at hl 3 rfl) ?_
  refine lv_iload_n hx hb dL_law_1187 rfl (lv_at hl 0 rfl) ?_
  refine lv_iconst (v := (1 : Int32)) hx hb dL_law_1188 (by decide) ?_
  refine lv_iadd hx hb dL_law_1189 ?_
  refine lv_topi (fun x97 ex97 => ?_)
  have tx97 : x97.toInt = x3.toInt + (1 : Int32).toInt := by rw [ex97]; exact ti_add (by omega)
  refine va_sld hx hb hX hbl hbA hS (vin (by omega)) dL_law_1190 ?_
  refine lv_topi (fun v8 ev8 => ?_)
  obtain rfl : v2 = v8 := by rw [ev2, ev8, ex91, ex97]
  refine lv_aload_n hx hb dL_law_1191 rfl (lv_at hl 3 rfl) ?_
  refine lv_iload_n hx hb dL_law_1192 rfl (lv_at hl 0 rfl) ?_
  refine lv_iconst (v := (2 : Int32)) hx hb dL_law_1193 (by decide) ?_
  refine lv_iadd hx hb dL_law_1194 ?_
  refine lv_topi (fun x99 ex99 => ?_)
  have tx99 : x99.toInt = x3.toInt + (2 : Int32).toInt := by rw [ex99]; exact ti_add (by omega)
  refine va_sld hx hb hX hbl hbA hS (vin (by omega)) dL_law_1195 ?_
  refine lv_topi (fun v10 ev10 => ?_)
  obtain rfl : v4 = v10 := by rw [ev4, ev10, ex93, ex99]
  refine lw_Vi (q := (RX11, TX11, 31)) (As := [.int v2, .int v4]) (rest := []) ⟨hx, hb, hml, hown, hts⟩ (c_X11_drop l D cy κ u6 q1 km v2 v4) (cwV 2 hts g2_X11_drop rfl rfl rfl (by decide +kernel) ⟨Nat.le_of_ble_eq_true rfl, Nat.le_of_ble_eq_true rfl⟩) hK hT hS hκ km (by decide) rfl rfl hl.1 rfl (Nat.le_of_ble_eq_true rfl) dL_law_1196 hc (fun r11 u12 H locs hpu12 hT hS => ?_)
  refine lv_pop hx hb dL_law_1199 rfl ?_
  refine lv_goto (tgt := 1226) hx hb dL_law_1200 (by decide) ?_
  exact kend u12 H locs (EQ.cnt (cntG.of hpu12.1) (EQ.cnt (cntG.of hpu6.1) hE)) hT hS
set_option maxHeartbeats 4000000 in
set_option maxRecDepth 100000 in
theorem law_c27 {p : Program} {l : Launch} {e : Env} {s : State} {m : MethodId} {below : List Frame} {meth : Method} {c : Code} {b L : Nat} {xs : Nat → Int32} {cells slots : Nat} {Q : State → Prop} {D : va_G} {cy : Nat → ClassId} {κ : Nat → Nat} {q0 q1 : Nat} (hx : p.tables.exec = Jvm.exec) (hb : c.code = cL_law) (hml : c.maxLocals = 4) (hown : s.vm.findClass RL = some m.cls) (hts : ∀ w ∈ lw_tbl, w.before #[Value.ref b] s = true) (hX : va_X b L xs s s.heap) (hbl : b < s.heap.size) (hK : KK D cy s) (kx : κ q0 = 11) (km : κ q1 = 12) (hκ : ∀ q, κ q ≠ 0 → (fun q : Nat => s.heap.size ≤ q) q) (hc : cells ≤ 600000 ∧ slots ≤ 7302250) {g : Gh} {H : Heap} {locs : List Loc} {ls : Array Slot} {x3 : Int32} (hE : EQ g) (hT : TW D cy κ g H) (hS : va_S (fun q : Nat => s.heap.size ≤ q) s.heap H locs) (hl : lv_has ls 4 [(3, .int x3), (2, .ref q1), (1, .ref q0), (0, .ref b)]) (h3 : 0 ≤ x3.toInt ∧ x3.toInt + 7 ≤ (L : Int)) (hL : L ≤ 3584) (kend : ∀ (g1 : Gh) (H1 : Heap) (locs1 : List Loc), EQ g1 → TW D cy κ g1 H1 → va_S (fun q : Nat => s.heap.size ≤ q) s.heap H1 locs1 → W p l e room_1 s m #[Value.ref b] below meth c H1 locs1 cells slots Q (F0 m 1226 ls [])) : W p l e room_1 s m #[Value.ref b] below meth c H locs cells slots Q (F0 m 1203 ls []) := by
  have hbA : ¬ (fun q : Nat => s.heap.size ≤ q) b := Nat.not_le.mpr hbl
  have hc1 : (1 : Int32).toInt = 1 := rfl
  refine lv_aload_n hx hb dL_law_1203 rfl (lv_at hl 2 rfl) ?_
  refine lv_aload_n hx hb dL_law_1204 rfl (lv_at hl 3 rfl) ?_
  refine lv_iload_n hx hb dL_law_1205 rfl (lv_at hl 0 rfl) ?_
  refine lv_iconst (v := (1 : Int32)) hx hb dL_law_1206 (by decide) ?_
  refine lv_iadd hx hb dL_law_1207 ?_
  refine lv_topi (fun x91 ex91 => ?_)
  have tx91 : x91.toInt = x3.toInt + (1 : Int32).toInt := by rw [ex91]; exact ti_add (by omega)
  refine va_sld hx hb hX hbl hbA hS (vin (by omega)) dL_law_1208 ?_
  refine lv_topi (fun v2 ev2 => ?_)
  refine lw_Vi (q := (RX10, TX10, 11)) (As := [.int v2]) (rest := []) ⟨hx, hb, hml, hown, hts⟩ (c_X10_count l D cy κ g q0 kx v2) (cwV 1 hts g2_X10_count rfl rfl rfl (by decide +kernel) ⟨Nat.le_of_ble_eq_true rfl, Nat.le_of_ble_eq_true rfl⟩) hK hT hS hκ kx (by decide) rfl rfl hl.1 rfl (Nat.le_of_ble_eq_true rfl) dL_law_1209 hc (fun r3 u4 H locs hpu4 hT hS => ?_)
  refine lv_pop hx hb dL_law_1212 rfl ?_
  refine lv_aload_n hx hb dL_law_1213 rfl (lv_at hl 1 rfl) ?_
  refine lv_aload_n hx hb dL_law_1214 rfl (lv_at hl 3 rfl) ?_
  refine lv_iload_n hx hb dL_law_1215 rfl (lv_at hl 0 rfl) ?_
  refine lv_iconst (v := (1 : Int32)) hx hb dL_law_1216 (by decide) ?_
  refine lv_iadd hx hb dL_law_1217 ?_
  refine lv_topi (fun x95 ex95 => ?_)
  have tx95 : x95.toInt = x3.toInt + (1 : Int32).toInt := by rw [ex95]; exact ti_add (by omega)
  refine va_sld hx hb hX hbl hbA hS (vin (by omega)) dL_law_1218 ?_
  refine lv_topi (fun v6 ev6 => ?_)
  obtain rfl : v2 = v6 := by rw [ev2, ev6, ex91, ex95]
  refine lw_Vi (q := (RX11, TX11, 31)) (As := [.int v2]) (rest := []) ⟨hx, hb, hml, hown, hts⟩ (c_X11_count l D cy κ u4 q1 km v2) (cwV 1 hts g2_X11_count rfl rfl rfl (by decide +kernel) ⟨Nat.le_of_ble_eq_true rfl, Nat.le_of_ble_eq_true rfl⟩) hK hT hS hκ km (by decide) rfl rfl hl.1 rfl (Nat.le_of_ble_eq_true rfl) dL_law_1219 hc (fun r7 u8 H locs hpu8 hT hS => ?_)
  refine lv_pop hx hb dL_law_1222 rfl ?_
  refine lv_goto (tgt := 1226) hx hb dL_law_1223 (by decide) ?_
  exact kend u8 H locs (EQ.cnt (cntG.of hpu8.1) (EQ.cnt (cntG.of hpu4.1) hE)) hT hS
