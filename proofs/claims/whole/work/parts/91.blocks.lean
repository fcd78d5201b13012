set_option maxHeartbeats 1000000 in
set_option maxRecDepth 100000 in
theorem law_0 {p : Program} {l : Launch} {e : Env} {s : State} {m : MethodId} {below : List Frame} {meth : Method} {c : Code} {D : va_G} {cI cZ cQ : ClassId} {b : Nat} {L : Nat} {xs : Nat → Int32} {x0 a0 q n G : Nat} {wM wX : va_W} (F : gFx p m c code 4 s #[Value.ref b] wsL_law RL D (gTy cI cZ cQ) (fun z => s.heap.size ≤ z)) (hO : ordS s) (hX : va_X b L xs s s.heap) (hbl : b < s.heap.size) (hL : L ≤ 2048) (hq : 4 * q + 4 ≤ L) (hR : RelW cI cZ cQ a0 x0 n G wM wX) (hn1 : 600 ≤ n) (hn2 : n ≤ 30000) (hG1 : 20000 ≤ G) (hG2 : G ≤ 900000) (hback : ∀ wM2 wX2, RelW cI cZ cQ a0 x0 (n + 40) (G + 1500) wM2 wX2 → Go p l e room_1 s m #[Value.ref b] below meth c (lw_Z below #[Value.ref b] s) D (fun z => s.heap.size ≤ z) 4 162 3367 (wM2 ++ wX2) 1007 [(0, .ref b), (1, .ref x0), (2, .ref a0), (3, .int (nI (4 * q)))] []) : Go p l e room_1 s m #[Value.ref b] below meth c (lw_Z below #[Value.ref b] s) D (fun z => s.heap.size ≤ z) 4 162 3367 (wM ++ wX) 160 [(0, .ref b), (1, .ref x0), (2, .ref a0), (3, .int (nI (4 * q)))] [] := by
  refine g_aload_n F dL_law_160 rfl 1 rfl ?_
  refine g_aload_n F dL_law_161 rfl 0 rfl ?_
  refine g_iload_n F dL_law_162 rfl 3 rfl ?_
  refine g_iconst F (v := 1) dL_law_163 (by decide) ?_
  refine g_iadd F dL_law_164 ?_
  refine g_as (nI (4 * q + 1)) (nI_add (4 * q) 1) ?_
  refine g_sld F hX hbl (by omega) (by omega) dL_law_165 ?_
  obtain ⟨wM2, wX2, z, hR2, hc1, hc2⟩ := sim_write (l := l) (D := D) hR hn1 hn2 hG1 hG2 (xs (4 * q + 1))
  refine g_lawX F (n := 1) (As := [.int (xs (4 * q + 1))]) (st := []) hc1 gL_law_X1_write rfl (by decide +kernel) (by decide) (RelW_x hR).1 rfl rfl (Nat.le_of_ble_eq_true rfl) dL_law_166 ?_
  refine g_aload_n F dL_law_169 rfl 2 rfl ?_
  refine g_aload_n F dL_law_170 rfl 0 rfl ?_
  refine g_iload_n F dL_law_171 rfl 3 rfl ?_
  refine g_iconst F (v := 1) dL_law_172 (by decide) ?_
  refine g_iadd F dL_law_173 ?_
  refine g_as (nI (4 * q + 1)) (nI_add (4 * q) 1) ?_
  refine g_sld F hX hbl (by omega) (by omega) dL_law_174 ?_
  refine g_lawM F (n := 1) (As := [.int (xs (4 * q + 1))]) (st := [.int z]) hc2 gL_law_X2_write rfl (by decide +kernel) (by decide) (RelW_x hR).2 rfl rfl (Nat.le_of_ble_eq_true rfl) dL_law_175 ?_
  refine g_icmp_eq F 1007 dL_law_178 (by decide) (fun c1 => ?_) (fun c1 => ?_)
  · exact hback wM2 wX2 hR2
  · exact absurd rfl c1
set_option maxHeartbeats 1000000 in
set_option maxRecDepth 100000 in
theorem law_1 {p : Program} {l : Launch} {e : Env} {s : State} {m : MethodId} {below : List Frame} {meth : Method} {c : Code} {D : va_G} {cI cZ cQ : ClassId} {b : Nat} {L : Nat} {xs : Nat → Int32} {x0 a0 q n G : Nat} {wM wX : va_W} (F : gFx p m c code 4 s #[Value.ref b] wsL_law RL D (gTy cI cZ cQ) (fun z => s.heap.size ≤ z)) (hO : ordS s) (hX : va_X b L xs s s.heap) (hbl : b < s.heap.size) (hL : L ≤ 2048) (hq : 4 * q + 4 ≤ L) (hR : RelW cI cZ cQ a0 x0 n G wM wX) (hn1 : 600 ≤ n) (hn2 : n ≤ 30000) (hG1 : 20000 ≤ G) (hG2 : G ≤ 900000) (hback : ∀ wM2 wX2, RelW cI cZ cQ a0 x0 (n + 40) (G + 1500) wM2 wX2 → Go p l e room_1 s m #[Value.ref b] below meth c (lw_Z below #[Value.ref b] s) D (fun z => s.heap.size ≤ z) 4 162 3367 (wM2 ++ wX2) 1007 [(0, .ref b), (1, .ref x0), (2, .ref a0), (3, .int (nI (4 * q)))] []) : Go p l e room_1 s m #[Value.ref b] below meth c (lw_Z below #[Value.ref b] s) D (fun z => s.heap.size ≤ z) 4 162 3367 (wM ++ wX) 183 [(0, .ref b), (1, .ref x0), (2, .ref a0), (3, .int (nI (4 * q)))] [] := by
  refine g_aload_n F dL_law_183 rfl 1 rfl ?_
  obtain ⟨wM2, wX2, z, hR2, hc1, hc2⟩ := sim_wipe (l := l) (D := D) hR hn1 hn2 hG1 hG2 
  refine g_lawX F (n := 0) (As := []) (st := []) hc1 gL_law_X1_wipe rfl (by decide +kernel) (by decide) (RelW_x hR).1 rfl rfl (Nat.le_of_ble_eq_true rfl) dL_law_184 ?_
  refine g_aload_n F dL_law_187 rfl 2 rfl ?_
  refine g_lawM F (n := 0) (As := []) (st := [.int z]) hc2 gL_law_X2_wipe rfl (by decide +kernel) (by decide) (RelW_x hR).2 rfl rfl (Nat.le_of_ble_eq_true rfl) dL_law_188 ?_
  refine g_icmp_eq F 1007 dL_law_191 (by decide) (fun c1 => ?_) (fun c1 => ?_)
  · exact hback wM2 wX2 hR2
  · exact absurd rfl c1
set_option maxHeartbeats 1000000 in
set_option maxRecDepth 100000 in
theorem law_2 {p : Program} {l : Launch} {e : Env} {s : State} {m : MethodId} {below : List Frame} {meth : Method} {c : Code} {D : va_G} {cI cZ cQ : ClassId} {b : Nat} {L : Nat} {xs : Nat → Int32} {x0 a0 q n G : Nat} {wM wX : va_W} (F : gFx p m c code 4 s #[Value.ref b] wsL_law RL D (gTy cI cZ cQ) (fun z => s.heap.size ≤ z)) (hO : ordS s) (hX : va_X b L xs s s.heap) (hbl : b < s.heap.size) (hL : L ≤ 2048) (hq : 4 * q + 4 ≤ L) (hR : RelW cI cZ cQ a0 x0 n G wM wX) (hn1 : 600 ≤ n) (hn2 : n ≤ 30000) (hG1 : 20000 ≤ G) (hG2 : G ≤ 900000) (hback : ∀ wM2 wX2, RelW cI cZ cQ a0 x0 (n + 40) (G + 1500) wM2 wX2 → Go p l e room_1 s m #[Value.ref b] below meth c (lw_Z below #[Value.ref b] s) D (fun z => s.heap.size ≤ z) 4 162 3367 (wM2 ++ wX2) 1007 [(0, .ref b), (1, .ref x0), (2, .ref a0), (3, .int (nI (4 * q)))] []) : Go p l e room_1 s m #[Value.ref b] below meth c (lw_Z below #[Value.ref b] s) D (fun z => s.heap.size ≤ z) 4 162 3367 (wM ++ wX) 196 [(0, .ref b), (1, .ref x0), (2, .ref a0), (3, .int (nI (4 * q)))] [] := by
  refine g_aload_n F dL_law_196 rfl 1 rfl ?_
  obtain ⟨wM2, wX2, z, hR2, hc1, hc2⟩ := sim_fault (l := l) (D := D) hR hn1 hn2 hG1 hG2 
  refine g_lawX F (n := 0) (As := []) (st := []) hc1 gL_law_X1_fault rfl (by decide +kernel) (by decide) (RelW_x hR).1 rfl rfl (Nat.le_of_ble_eq_true rfl) dL_law_197 ?_
  refine g_aload_n F dL_law_200 rfl 2 rfl ?_
  refine g_lawM F (n := 0) (As := []) (st := [.int z]) hc2 gL_law_X2_fault rfl (by decide +kernel) (by decide) (RelW_x hR).2 rfl rfl (Nat.le_of_ble_eq_true rfl) dL_law_201 ?_
  refine g_icmp_eq F 1007 dL_law_204 (by decide) (fun c1 => ?_) (fun c1 => ?_)
  · exact hback wM2 wX2 hR2
  · exact absurd rfl c1
set_option maxHeartbeats 1000000 in
set_option maxRecDepth 100000 in
theorem law_3 {p : Program} {l : Launch} {e : Env} {s : State} {m : MethodId} {below : List Frame} {meth : Method} {c : Code} {D : va_G} {cI cZ cQ : ClassId} {b : Nat} {L : Nat} {xs : Nat → Int32} {x0 a0 q n G : Nat} {wM wX : va_W} (F : gFx p m c code 4 s #[Value.ref b] wsL_law RL D (gTy cI cZ cQ) (fun z => s.heap.size ≤ z)) (hO : ordS s) (hX : va_X b L xs s s.heap) (hbl : b < s.heap.size) (hL : L ≤ 2048) (hq : 4 * q + 4 ≤ L) (hR : RelW cI cZ cQ a0 x0 n G wM wX) (hn1 : 600 ≤ n) (hn2 : n ≤ 30000) (hG1 : 20000 ≤ G) (hG2 : G ≤ 900000) (hback : ∀ wM2 wX2, RelW cI cZ cQ a0 x0 (n + 40) (G + 1500) wM2 wX2 → Go p l e room_1 s m #[Value.ref b] below meth c (lw_Z below #[Value.ref b] s) D (fun z => s.heap.size ≤ z) 4 162 3367 (wM2 ++ wX2) 1007 [(0, .ref b), (1, .ref x0), (2, .ref a0), (3, .int (nI (4 * q)))] []) : Go p l e room_1 s m #[Value.ref b] below meth c (lw_Z below #[Value.ref b] s) D (fun z => s.heap.size ≤ z) 4 162 3367 (wM ++ wX) 209 [(0, .ref b), (1, .ref x0), (2, .ref a0), (3, .int (nI (4 * q)))] [] := by
  refine g_aload_n F dL_law_209 rfl 1 rfl ?_
  obtain ⟨wM2, wX2, z, hR2, hc1, hc2⟩ := sim_meeting (l := l) (D := D) hR hn1 hn2 hG1 hG2 
  refine g_lawX F (n := 0) (As := []) (st := []) hc1 gL_law_X1_meeting rfl (by decide +kernel) (by decide) (RelW_x hR).1 rfl rfl (Nat.le_of_ble_eq_true rfl) dL_law_210 ?_
  refine g_aload_n F dL_law_213 rfl 2 rfl ?_
  refine g_lawM F (n := 0) (As := []) (st := [.int z]) hc2 gL_law_X2_meeting rfl (by decide +kernel) (by decide) (RelW_x hR).2 rfl rfl (Nat.le_of_ble_eq_true rfl) dL_law_214 ?_
  refine g_icmp_eq F 1007 dL_law_217 (by decide) (fun c1 => ?_) (fun c1 => ?_)
  · exact hback wM2 wX2 hR2
  · exact absurd rfl c1
set_option maxHeartbeats 1000000 in
set_option maxRecDepth 100000 in
theorem law_4 {p : Program} {l : Launch} {e : Env} {s : State} {m : MethodId} {below : List Frame} {meth : Method} {c : Code} {D : va_G} {cI cZ cQ : ClassId} {b : Nat} {L : Nat} {xs : Nat → Int32} {x0 a0 q n G : Nat} {wM wX : va_W} (F : gFx p m c code 4 s #[Value.ref b] wsL_law RL D (gTy cI cZ cQ) (fun z => s.heap.size ≤ z)) (hO : ordS s) (hX : va_X b L xs s s.heap) (hbl : b < s.heap.size) (hL : L ≤ 2048) (hq : 4 * q + 4 ≤ L) (hR : RelW cI cZ cQ a0 x0 n G wM wX) (hn1 : 600 ≤ n) (hn2 : n ≤ 30000) (hG1 : 20000 ≤ G) (hG2 : G ≤ 900000) (hback : ∀ wM2 wX2, RelW cI cZ cQ a0 x0 (n + 40) (G + 1500) wM2 wX2 → Go p l e room_1 s m #[Value.ref b] below meth c (lw_Z below #[Value.ref b] s) D (fun z => s.heap.size ≤ z) 4 162 3367 (wM2 ++ wX2) 1007 [(0, .ref b), (1, .ref x0), (2, .ref a0), (3, .int (nI (4 * q)))] []) : Go p l e room_1 s m #[Value.ref b] below meth c (lw_Z below #[Value.ref b] s) D (fun z => s.heap.size ≤ z) 4 162 3367 (wM ++ wX) 222 [(0, .ref b), (1, .ref x0), (2, .ref a0), (3, .int (nI (4 * q)))] [] := by
  refine g_aload_n F dL_law_222 rfl 1 rfl ?_
  refine g_aload_n F dL_law_223 rfl 0 rfl ?_
  refine g_iload_n F dL_law_224 rfl 3 rfl ?_
  refine g_iconst F (v := 1) dL_law_225 (by decide) ?_
  refine g_iadd F dL_law_226 ?_
  refine g_as (nI (4 * q + 1)) (nI_add (4 * q) 1) ?_
  refine g_sld F hX hbl (by omega) (by omega) dL_law_227 ?_
  obtain ⟨wM2, wX2, z, hR2, hc1, hc2⟩ := sim_about (l := l) (D := D) hR hn1 hn2 hG1 hG2 (xs (4 * q + 1))
  refine g_lawX F (n := 1) (As := [.int (xs (4 * q + 1))]) (st := []) hc1 gL_law_X1_about rfl (by decide +kernel) (by decide) (RelW_x hR).1 rfl rfl (Nat.le_of_ble_eq_true rfl) dL_law_228 ?_
  refine g_aload_n F dL_law_231 rfl 2 rfl ?_
  refine g_aload_n F dL_law_232 rfl 0 rfl ?_
  refine g_iload_n F dL_law_233 rfl 3 rfl ?_
  refine g_iconst F (v := 1) dL_law_234 (by decide) ?_
  refine g_iadd F dL_law_235 ?_
  refine g_as (nI (4 * q + 1)) (nI_add (4 * q) 1) ?_
  refine g_sld F hX hbl (by omega) (by omega) dL_law_236 ?_
  refine g_lawM F (n := 1) (As := [.int (xs (4 * q + 1))]) (st := [.int z]) hc2 gL_law_X2_about rfl (by decide +kernel) (by decide) (RelW_x hR).2 rfl rfl (Nat.le_of_ble_eq_true rfl) dL_law_237 ?_
  refine g_icmp_eq F 1007 dL_law_240 (by decide) (fun c1 => ?_) (fun c1 => ?_)
  · exact hback wM2 wX2 hR2
  · exact absurd rfl c1
set_option maxHeartbeats 1000000 in
set_option maxRecDepth 100000 in
theorem law_5 {p : Program} {l : Launch} {e : Env} {s : State} {m : MethodId} {below : List Frame} {meth : Method} {c : Code} {D : va_G} {cI cZ cQ : ClassId} {b : Nat} {L : Nat} {xs : Nat → Int32} {x0 a0 q n G : Nat} {wM wX : va_W} (F : gFx p m c code 4 s #[Value.ref b] wsL_law RL D (gTy cI cZ cQ) (fun z => s.heap.size ≤ z)) (hO : ordS s) (hX : va_X b L xs s s.heap) (hbl : b < s.heap.size) (hL : L ≤ 2048) (hq : 4 * q + 4 ≤ L) (hR : RelW cI cZ cQ a0 x0 n G wM wX) (hn1 : 600 ≤ n) (hn2 : n ≤ 30000) (hG1 : 20000 ≤ G) (hG2 : G ≤ 900000) (hback : ∀ wM2 wX2, RelW cI cZ cQ a0 x0 (n + 40) (G + 1500) wM2 wX2 → Go p l e room_1 s m #[Value.ref b] below meth c (lw_Z below #[Value.ref b] s) D (fun z => s.heap.size ≤ z) 4 162 3367 (wM2 ++ wX2) 1007 [(0, .ref b), (1, .ref x0), (2, .ref a0), (3, .int (nI (4 * q)))] []) : Go p l e room_1 s m #[Value.ref b] below meth c (lw_Z below #[Value.ref b] s) D (fun z => s.heap.size ≤ z) 4 162 3367 (wM ++ wX) 245 [(0, .ref b), (1, .ref x0), (2, .ref a0), (3, .int (nI (4 * q)))] [] := by
  refine g_aload_n F dL_law_245 rfl 1 rfl ?_
  refine g_aload_n F dL_law_246 rfl 0 rfl ?_
  refine g_iload_n F dL_law_247 rfl 3 rfl ?_
  refine g_iconst F (v := 1) dL_law_248 (by decide) ?_
  refine g_iadd F dL_law_249 ?_
  refine g_as (nI (4 * q + 1)) (nI_add (4 * q) 1) ?_
  refine g_sld F hX hbl (by omega) (by omega) dL_law_250 ?_
  refine g_aload_n F dL_law_251 rfl 0 rfl ?_
  refine g_iload_n F dL_law_252 rfl 3 rfl ?_
  refine g_iconst F (v := 2) dL_law_253 (by decide) ?_
  refine g_iadd F dL_law_254 ?_
  refine g_as (nI (4 * q + 2)) (nI_add (4 * q) 2) ?_
  refine g_sld F hX hbl (by omega) (by omega) dL_law_255 ?_
  obtain ⟨wM2, wX2, z, hR2, hc1, hc2⟩ := sim_member (l := l) (D := D) hR hn1 hn2 hG1 hG2 (xs (4 * q + 1)) (xs (4 * q + 2))
  refine g_lawX F (n := 2) (As := [.int (xs (4 * q + 1)), .int (xs (4 * q + 2))]) (st := []) hc1 gL_law_X1_member rfl (by decide +kernel) (by decide) (RelW_x hR).1 rfl rfl (Nat.le_of_ble_eq_true rfl) dL_law_256 ?_
  refine g_aload_n F dL_law_259 rfl 2 rfl ?_
  refine g_aload_n F dL_law_260 rfl 0 rfl ?_
  refine g_iload_n F dL_law_261 rfl 3 rfl ?_
  refine g_iconst F (v := 1) dL_law_262 (by decide) ?_
  refine g_iadd F dL_law_263 ?_
  refine g_as (nI (4 * q + 1)) (nI_add (4 * q) 1) ?_
  refine g_sld F hX hbl (by omega) (by omega) dL_law_264 ?_
  refine g_aload_n F dL_law_265 rfl 0 rfl ?_
  refine g_iload_n F dL_law_266 rfl 3 rfl ?_
  refine g_iconst F (v := 2) dL_law_267 (by decide) ?_
  refine g_iadd F dL_law_268 ?_
  refine g_as (nI (4 * q + 2)) (nI_add (4 * q) 2) ?_
  refine g_sld F hX hbl (by omega) (by omega) dL_law_269 ?_
  refine g_lawM F (n := 2) (As := [.int (xs (4 * q + 1)), .int (xs (4 * q + 2))]) (st := [.int z]) hc2 gL_law_X2_member rfl (by decide +kernel) (by decide) (RelW_x hR).2 rfl rfl (Nat.le_of_ble_eq_true rfl) dL_law_270 ?_
  refine g_icmp_eq F 1007 dL_law_273 (by decide) (fun c1 => ?_) (fun c1 => ?_)
  · exact hback wM2 wX2 hR2
  · exact absurd rfl c1
set_option maxHeartbeats 1000000 in
set_option maxRecDepth 100000 in
theorem law_6 {p : Program} {l : Launch} {e : Env} {s : State} {m : MethodId} {below : List Frame} {meth : Method} {c : Code} {D : va_G} {cI cZ cQ : ClassId} {b : Nat} {L : Nat} {xs : Nat → Int32} {x0 a0 q n G : Nat} {wM wX : va_W} (F : gFx p m c code 4 s #[Value.ref b] wsL_law RL D (gTy cI cZ cQ) (fun z => s.heap.size ≤ z)) (hO : ordS s) (hX : va_X b L xs s s.heap) (hbl : b < s.heap.size) (hL : L ≤ 2048) (hq : 4 * q + 4 ≤ L) (hR : RelW cI cZ cQ a0 x0 n G wM wX) (hn1 : 600 ≤ n) (hn2 : n ≤ 30000) (hG1 : 20000 ≤ G) (hG2 : G ≤ 900000) (hback : ∀ wM2 wX2, RelW cI cZ cQ a0 x0 (n + 40) (G + 1500) wM2 wX2 → Go p l e room_1 s m #[Value.ref b] below meth c (lw_Z below #[Value.ref b] s) D (fun z => s.heap.size ≤ z) 4 162 3367 (wM2 ++ wX2) 1007 [(0, .ref b), (1, .ref x0), (2, .ref a0), (3, .int (nI (4 * q)))] []) : Go p l e room_1 s m #[Value.ref b] below meth c (lw_Z below #[Value.ref b] s) D (fun z => s.heap.size ≤ z) 4 162 3367 (wM ++ wX) 278 [(0, .ref b), (1, .ref x0), (2, .ref a0), (3, .int (nI (4 * q)))] [] := by
  refine g_aload_n F dL_law_278 rfl 1 rfl ?_
  refine g_aload_n F dL_law_279 rfl 0 rfl ?_
  refine g_iload_n F dL_law_280 rfl 3 rfl ?_
  refine g_iconst F (v := 1) dL_law_281 (by decide) ?_
  refine g_iadd F dL_law_282 ?_
  refine g_as (nI (4 * q + 1)) (nI_add (4 * q) 1) ?_
  refine g_sld F hX hbl (by omega) (by omega) dL_law_283 ?_
  refine g_aload_n F dL_law_284 rfl 0 rfl ?_
  refine g_iload_n F dL_law_285 rfl 3 rfl ?_
  refine g_iconst F (v := 2) dL_law_286 (by decide) ?_
  refine g_iadd F dL_law_287 ?_
  refine g_as (nI (4 * q + 2)) (nI_add (4 * q) 2) ?_
  refine g_sld F hX hbl (by omega) (by omega) dL_law_288 ?_
  obtain ⟨wM2, wX2, z, hR2, hc1, hc2⟩ := sim_heard (l := l) (D := D) hR hn1 hn2 hG1 hG2 (xs (4 * q + 1)) (xs (4 * q + 2))
  refine g_lawX F (n := 2) (As := [.int (xs (4 * q + 1)), .int (xs (4 * q + 2))]) (st := []) hc1 gL_law_X1_heard rfl (by decide +kernel) (by decide) (RelW_x hR).1 rfl rfl (Nat.le_of_ble_eq_true rfl) dL_law_289 ?_
  refine g_aload_n F dL_law_292 rfl 2 rfl ?_
  refine g_aload_n F dL_law_293 rfl 0 rfl ?_
  refine g_iload_n F dL_law_294 rfl 3 rfl ?_
  refine g_iconst F (v := 1) dL_law_295 (by decide) ?_
  refine g_iadd F dL_law_296 ?_
  refine g_as (nI (4 * q + 1)) (nI_add (4 * q) 1) ?_
  refine g_sld F hX hbl (by omega) (by omega) dL_law_297 ?_
  refine g_aload_n F dL_law_298 rfl 0 rfl ?_
  refine g_iload_n F dL_law_299 rfl 3 rfl ?_
  refine g_iconst F (v := 2) dL_law_300 (by decide) ?_
  refine g_iadd F dL_law_301 ?_
  refine g_as (nI (4 * q + 2)) (nI_add (4 * q) 2) ?_
  refine g_sld F hX hbl (by omega) (by omega) dL_law_302 ?_
  refine g_lawM F (n := 2) (As := [.int (xs (4 * q + 1)), .int (xs (4 * q + 2))]) (st := [.int z]) hc2 gL_law_X2_heard rfl (by decide +kernel) (by decide) (RelW_x hR).2 rfl rfl (Nat.le_of_ble_eq_true rfl) dL_law_303 ?_
  refine g_icmp_eq F 1007 dL_law_306 (by decide) (fun c1 => ?_) (fun c1 => ?_)
  · exact hback wM2 wX2 hR2
  · exact absurd rfl c1
set_option maxHeartbeats 1000000 in
set_option maxRecDepth 100000 in
theorem law_7 {p : Program} {l : Launch} {e : Env} {s : State} {m : MethodId} {below : List Frame} {meth : Method} {c : Code} {D : va_G} {cI cZ cQ : ClassId} {b : Nat} {L : Nat} {xs : Nat → Int32} {x0 a0 q n G : Nat} {wM wX : va_W} (F : gFx p m c code 4 s #[Value.ref b] wsL_law RL D (gTy cI cZ cQ) (fun z => s.heap.size ≤ z)) (hO : ordS s) (hX : va_X b L xs s s.heap) (hbl : b < s.heap.size) (hL : L ≤ 2048) (hq : 4 * q + 4 ≤ L) (hR : RelW cI cZ cQ a0 x0 n G wM wX) (hn1 : 600 ≤ n) (hn2 : n ≤ 30000) (hG1 : 20000 ≤ G) (hG2 : G ≤ 900000) (hback : ∀ wM2 wX2, RelW cI cZ cQ a0 x0 (n + 40) (G + 1500) wM2 wX2 → Go p l e room_1 s m #[Value.ref b] below meth c (lw_Z below #[Value.ref b] s) D (fun z => s.heap.size ≤ z) 4 162 3367 (wM2 ++ wX2) 1007 [(0, .ref b), (1, .ref x0), (2, .ref a0), (3, .int (nI (4 * q)))] []) : Go p l e room_1 s m #[Value.ref b] below meth c (lw_Z below #[Value.ref b] s) D (fun z => s.heap.size ≤ z) 4 162 3367 (wM ++ wX) 311 [(0, .ref b), (1, .ref x0), (2, .ref a0), (3, .int (nI (4 * q)))] [] := by
  refine g_aload_n F dL_law_311 rfl 1 rfl ?_
  refine g_aload_n F dL_law_312 rfl 0 rfl ?_
  refine g_iload_n F dL_law_313 rfl 3 rfl ?_
  refine g_iconst F (v := 1) dL_law_314 (by decide) ?_
  refine g_iadd F dL_law_315 ?_
  refine g_as (nI (4 * q + 1)) (nI_add (4 * q) 1) ?_
  refine g_sld F hX hbl (by omega) (by omega) dL_law_316 ?_
  refine g_aload_n F dL_law_317 rfl 0 rfl ?_
  refine g_iload_n F dL_law_318 rfl 3 rfl ?_
  refine g_iconst F (v := 2) dL_law_319 (by decide) ?_
  refine g_iadd F dL_law_320 ?_
  refine g_as (nI (4 * q + 2)) (nI_add (4 * q) 2) ?_
  refine g_sld F hX hbl (by omega) (by omega) dL_law_321 ?_
  obtain ⟨wM2, wX2, z, hR2, hc1, hc2⟩ := sim_way (l := l) (D := D) hR hn1 hn2 hG1 hG2 (xs (4 * q + 1)) (xs (4 * q + 2))
  refine g_lawX F (n := 2) (As := [.int (xs (4 * q + 1)), .int (xs (4 * q + 2))]) (st := []) hc1 gL_law_X1_way rfl (by decide +kernel) (by decide) (RelW_x hR).1 rfl rfl (Nat.le_of_ble_eq_true rfl) dL_law_322 ?_
  refine g_aload_n F dL_law_325 rfl 2 rfl ?_
  refine g_aload_n F dL_law_326 rfl 0 rfl ?_
  refine g_iload_n F dL_law_327 rfl 3 rfl ?_
  refine g_iconst F (v := 1) dL_law_328 (by decide) ?_
  refine g_iadd F dL_law_329 ?_
  refine g_as (nI (4 * q + 1)) (nI_add (4 * q) 1) ?_
  refine g_sld F hX hbl (by omega) (by omega) dL_law_330 ?_
  refine g_aload_n F dL_law_331 rfl 0 rfl ?_
  refine g_iload_n F dL_law_332 rfl 3 rfl ?_
  refine g_iconst F (v := 2) dL_law_333 (by decide) ?_
  refine g_iadd F dL_law_334 ?_
  refine g_as (nI (4 * q + 2)) (nI_add (4 * q) 2) ?_
  refine g_sld F hX hbl (by omega) (by omega) dL_law_335 ?_
  refine g_lawM F (n := 2) (As := [.int (xs (4 * q + 1)), .int (xs (4 * q + 2))]) (st := [.int z]) hc2 gL_law_X2_way rfl (by decide +kernel) (by decide) (RelW_x hR).2 rfl rfl (Nat.le_of_ble_eq_true rfl) dL_law_336 ?_
  refine g_icmp_eq F 1007 dL_law_339 (by decide) (fun c1 => ?_) (fun c1 => ?_)
  · exact hback wM2 wX2 hR2
  · exact absurd rfl c1
set_option maxHeartbeats 1000000 in
set_option maxRecDepth 100000 in
theorem law_8 {p : Program} {l : Launch} {e : Env} {s : State} {m : MethodId} {below : List Frame} {meth : Method} {c : Code} {D : va_G} {cI cZ cQ : ClassId} {b : Nat} {L : Nat} {xs : Nat → Int32} {x0 a0 q n G : Nat} {wM wX : va_W} (F : gFx p m c code 4 s #[Value.ref b] wsL_law RL D (gTy cI cZ cQ) (fun z => s.heap.size ≤ z)) (hO : ordS s) (hX : va_X b L xs s s.heap) (hbl : b < s.heap.size) (hL : L ≤ 2048) (hq : 4 * q + 4 ≤ L) (hR : RelW cI cZ cQ a0 x0 n G wM wX) (hn1 : 600 ≤ n) (hn2 : n ≤ 30000) (hG1 : 20000 ≤ G) (hG2 : G ≤ 900000) (hback : ∀ wM2 wX2, RelW cI cZ cQ a0 x0 (n + 40) (G + 1500) wM2 wX2 → Go p l e room_1 s m #[Value.ref b] below meth c (lw_Z below #[Value.ref b] s) D (fun z => s.heap.size ≤ z) 4 162 3367 (wM2 ++ wX2) 1007 [(0, .ref b), (1, .ref x0), (2, .ref a0), (3, .int (nI (4 * q)))] []) : Go p l e room_1 s m #[Value.ref b] below meth c (lw_Z below #[Value.ref b] s) D (fun z => s.heap.size ≤ z) 4 162 3367 (wM ++ wX) 344 [(0, .ref b), (1, .ref x0), (2, .ref a0), (3, .int (nI (4 * q)))] [] := by
  refine g_aload_n F dL_law_344 rfl 1 rfl ?_
  refine g_aload_n F dL_law_345 rfl 0 rfl ?_
  refine g_iload_n F dL_law_346 rfl 3 rfl ?_
  refine g_iconst F (v := 1) dL_law_347 (by decide) ?_
  refine g_iadd F dL_law_348 ?_
  refine g_as (nI (4 * q + 1)) (nI_add (4 * q) 1) ?_
  refine g_sld F hX hbl (by omega) (by omega) dL_law_349 ?_
  obtain ⟨wM2, wX2, z, hR2, hc1, hc2⟩ := sim_join (l := l) (D := D) hR hn1 hn2 hG1 hG2 (xs (4 * q + 1))
  refine g_lawX F (n := 1) (As := [.int (xs (4 * q + 1))]) (st := []) hc1 gL_law_X1_join rfl (by decide +kernel) (by decide) (RelW_x hR).1 rfl rfl (Nat.le_of_ble_eq_true rfl) dL_law_350 ?_
  refine g_aload_n F dL_law_353 rfl 2 rfl ?_
  refine g_aload_n F dL_law_354 rfl 0 rfl ?_
  refine g_iload_n F dL_law_355 rfl 3 rfl ?_
  refine g_iconst F (v := 1) dL_law_356 (by decide) ?_
  refine g_iadd F dL_law_357 ?_
  refine g_as (nI (4 * q + 1)) (nI_add (4 * q) 1) ?_
  refine g_sld F hX hbl (by omega) (by omega) dL_law_358 ?_
  refine g_lawM F (n := 1) (As := [.int (xs (4 * q + 1))]) (st := [.int z]) hc2 gL_law_X2_join rfl (by decide +kernel) (by decide) (RelW_x hR).2 rfl rfl (Nat.le_of_ble_eq_true rfl) dL_law_359 ?_
  refine g_icmp_eq F 1007 dL_law_362 (by decide) (fun c1 => ?_) (fun c1 => ?_)
  · exact hback wM2 wX2 hR2
  · exact absurd rfl c1
set_option maxHeartbeats 1000000 in
set_option maxRecDepth 100000 in
theorem law_9 {p : Program} {l : Launch} {e : Env} {s : State} {m : MethodId} {below : List Frame} {meth : Method} {c : Code} {D : va_G} {cI cZ cQ : ClassId} {b : Nat} {L : Nat} {xs : Nat → Int32} {x0 a0 q n G : Nat} {wM wX : va_W} (F : gFx p m c code 4 s #[Value.ref b] wsL_law RL D (gTy cI cZ cQ) (fun z => s.heap.size ≤ z)) (hO : ordS s) (hX : va_X b L xs s s.heap) (hbl : b < s.heap.size) (hL : L ≤ 2048) (hq : 4 * q + 4 ≤ L) (hR : RelW cI cZ cQ a0 x0 n G wM wX) (hn1 : 600 ≤ n) (hn2 : n ≤ 30000) (hG1 : 20000 ≤ G) (hG2 : G ≤ 900000) (hback : ∀ wM2 wX2, RelW cI cZ cQ a0 x0 (n + 40) (G + 1500) wM2 wX2 → Go p l e room_1 s m #[Value.ref b] below meth c (lw_Z below #[Value.ref b] s) D (fun z => s.heap.size ≤ z) 4 162 3367 (wM2 ++ wX2) 1007 [(0, .ref b), (1, .ref x0), (2, .ref a0), (3, .int (nI (4 * q)))] []) : Go p l e room_1 s m #[Value.ref b] below meth c (lw_Z below #[Value.ref b] s) D (fun z => s.heap.size ≤ z) 4 162 3367 (wM ++ wX) 367 [(0, .ref b), (1, .ref x0), (2, .ref a0), (3, .int (nI (4 * q)))] [] := by
  refine g_aload_n F dL_law_367 rfl 1 rfl ?_
  refine g_aload_n F dL_law_368 rfl 0 rfl ?_
  refine g_iload_n F dL_law_369 rfl 3 rfl ?_
  refine g_iconst F (v := 1) dL_law_370 (by decide) ?_
  refine g_iadd F dL_law_371 ?_
  refine g_as (nI (4 * q + 1)) (nI_add (4 * q) 1) ?_
  refine g_sld F hX hbl (by omega) (by omega) dL_law_372 ?_
  obtain ⟨wM2, wX2, z, hR2, hc1, hc2⟩ := sim_leave (l := l) (D := D) hR hn1 hn2 hG1 hG2 (xs (4 * q + 1))
  refine g_lawX F (n := 1) (As := [.int (xs (4 * q + 1))]) (st := []) hc1 gL_law_X1_leave rfl (by decide +kernel) (by decide) (RelW_x hR).1 rfl rfl (Nat.le_of_ble_eq_true rfl) dL_law_373 ?_
  refine g_aload_n F dL_law_376 rfl 2 rfl ?_
  refine g_aload_n F dL_law_377 rfl 0 rfl ?_
  refine g_iload_n F dL_law_378 rfl 3 rfl ?_
  refine g_iconst F (v := 1) dL_law_379 (by decide) ?_
  refine g_iadd F dL_law_380 ?_
  refine g_as (nI (4 * q + 1)) (nI_add (4 * q) 1) ?_
  refine g_sld F hX hbl (by omega) (by omega) dL_law_381 ?_
  refine g_lawM F (n := 1) (As := [.int (xs (4 * q + 1))]) (st := [.int z]) hc2 gL_law_X2_leave rfl (by decide +kernel) (by decide) (RelW_x hR).2 rfl rfl (Nat.le_of_ble_eq_true rfl) dL_law_382 ?_
  refine g_icmp_eq F 1007 dL_law_385 (by decide) (fun c1 => ?_) (fun c1 => ?_)
  · exact hback wM2 wX2 hR2
  · exact absurd rfl c1
set_option maxHeartbeats 1000000 in
set_option maxRecDepth 100000 in
theorem law_10 {p : Program} {l : Launch} {e : Env} {s : State} {m : MethodId} {below : List Frame} {meth : Method} {c : Code} {D : va_G} {cI cZ cQ : ClassId} {b : Nat} {L : Nat} {xs : Nat → Int32} {x0 a0 q n G : Nat} {wM wX : va_W} (F : gFx p m c code 4 s #[Value.ref b] wsL_law RL D (gTy cI cZ cQ) (fun z => s.heap.size ≤ z)) (hO : ordS s) (hX : va_X b L xs s s.heap) (hbl : b < s.heap.size) (hL : L ≤ 2048) (hq : 4 * q + 4 ≤ L) (hR : RelW cI cZ cQ a0 x0 n G wM wX) (hn1 : 600 ≤ n) (hn2 : n ≤ 30000) (hG1 : 20000 ≤ G) (hG2 : G ≤ 900000) (hback : ∀ wM2 wX2, RelW cI cZ cQ a0 x0 (n + 40) (G + 1500) wM2 wX2 → Go p l e room_1 s m #[Value.ref b] below meth c (lw_Z below #[Value.ref b] s) D (fun z => s.heap.size ≤ z) 4 162 3367 (wM2 ++ wX2) 1007 [(0, .ref b), (1, .ref x0), (2, .ref a0), (3, .int (nI (4 * q)))] []) : Go p l e room_1 s m #[Value.ref b] below meth c (lw_Z below #[Value.ref b] s) D (fun z => s.heap.size ≤ z) 4 162 3367 (wM ++ wX) 390 [(0, .ref b), (1, .ref x0), (2, .ref a0), (3, .int (nI (4 * q)))] [] := by
  refine g_aload_n F dL_law_390 rfl 1 rfl ?_
  refine g_aload_n F dL_law_391 rfl 0 rfl ?_
  refine g_iload_n F dL_law_392 rfl 3 rfl ?_
  refine g_iconst F (v := 1) dL_law_393 (by decide) ?_
  refine g_iadd F dL_law_394 ?_
  refine g_as (nI (4 * q + 1)) (nI_add (4 * q) 1) ?_
  refine g_sld F hX hbl (by omega) (by omega) dL_law_395 ?_
  obtain ⟨wM2, wX2, z, hR2, hc1, hc2⟩ := sim_pass (l := l) (D := D) hR hn1 hn2 hG1 hG2 (xs (4 * q + 1))
  refine g_lawX F (n := 1) (As := [.int (xs (4 * q + 1))]) (st := []) hc1 gL_law_X1_pass rfl (by decide +kernel) (by decide) (RelW_x hR).1 rfl rfl (Nat.le_of_ble_eq_true rfl) dL_law_396 ?_
  refine g_aload_n F dL_law_399 rfl 2 rfl ?_
  refine g_aload_n F dL_law_400 rfl 0 rfl ?_
  refine g_iload_n F dL_law_401 rfl 3 rfl ?_
  refine g_iconst F (v := 1) dL_law_402 (by decide) ?_
  refine g_iadd F dL_law_403 ?_
  refine g_as (nI (4 * q + 1)) (nI_add (4 * q) 1) ?_
  refine g_sld F hX hbl (by omega) (by omega) dL_law_404 ?_
  refine g_lawM F (n := 1) (As := [.int (xs (4 * q + 1))]) (st := [.int z]) hc2 gL_law_X2_pass rfl (by decide +kernel) (by decide) (RelW_x hR).2 rfl rfl (Nat.le_of_ble_eq_true rfl) dL_law_405 ?_
  refine g_icmp_eq F 1007 dL_law_408 (by decide) (fun c1 => ?_) (fun c1 => ?_)
  · exact hback wM2 wX2 hR2
  · exact absurd rfl c1
set_option maxHeartbeats 1000000 in
set_option maxRecDepth 100000 in
theorem law_11 {p : Program} {l : Launch} {e : Env} {s : State} {m : MethodId} {below : List Frame} {meth : Method} {c : Code} {D : va_G} {cI cZ cQ : ClassId} {b : Nat} {L : Nat} {xs : Nat → Int32} {x0 a0 q n G : Nat} {wM wX : va_W} (F : gFx p m c code 4 s #[Value.ref b] wsL_law RL D (gTy cI cZ cQ) (fun z => s.heap.size ≤ z)) (hO : ordS s) (hX : va_X b L xs s s.heap) (hbl : b < s.heap.size) (hL : L ≤ 2048) (hq : 4 * q + 4 ≤ L) (hR : RelW cI cZ cQ a0 x0 n G wM wX) (hn1 : 600 ≤ n) (hn2 : n ≤ 30000) (hG1 : 20000 ≤ G) (hG2 : G ≤ 900000) (hback : ∀ wM2 wX2, RelW cI cZ cQ a0 x0 (n + 40) (G + 1500) wM2 wX2 → Go p l e room_1 s m #[Value.ref b] below meth c (lw_Z below #[Value.ref b] s) D (fun z => s.heap.size ≤ z) 4 162 3367 (wM2 ++ wX2) 1007 [(0, .ref b), (1, .ref x0), (2, .ref a0), (3, .int (nI (4 * q)))] []) : Go p l e room_1 s m #[Value.ref b] below meth c (lw_Z below #[Value.ref b] s) D (fun z => s.heap.size ≤ z) 4 162 3367 (wM ++ wX) 413 [(0, .ref b), (1, .ref x0), (2, .ref a0), (3, .int (nI (4 * q)))] [] := by
  refine g_aload_n F dL_law_413 rfl 1 rfl ?_
  refine g_aload_n F dL_law_414 rfl 0 rfl ?_
  refine g_iload_n F dL_law_415 rfl 3 rfl ?_
  refine g_iconst F (v := 1) dL_law_416 (by decide) ?_
  refine g_iadd F dL_law_417 ?_
  refine g_as (nI (4 * q + 1)) (nI_add (4 * q) 1) ?_
  refine g_sld F hX hbl (by omega) (by omega) dL_law_418 ?_
  refine g_aload_n F dL_law_419 rfl 0 rfl ?_
  refine g_iload_n F dL_law_420 rfl 3 rfl ?_
  refine g_iconst F (v := 2) dL_law_421 (by decide) ?_
  refine g_iadd F dL_law_422 ?_
  refine g_as (nI (4 * q + 2)) (nI_add (4 * q) 2) ?_
  refine g_sld F hX hbl (by omega) (by omega) dL_law_423 ?_
  obtain ⟨wM2, wX2, z, hR2, hc1, hc2⟩ := sim_turn (l := l) (D := D) hR hn1 hn2 hG1 hG2 (xs (4 * q + 1)) (xs (4 * q + 2))
  refine g_lawX F (n := 2) (As := [.int (xs (4 * q + 1)), .int (xs (4 * q + 2))]) (st := []) hc1 gL_law_X1_turn rfl (by decide +kernel) (by decide) (RelW_x hR).1 rfl rfl (Nat.le_of_ble_eq_true rfl) dL_law_424 ?_
  refine g_aload_n F dL_law_427 rfl 2 rfl ?_
  refine g_aload_n F dL_law_428 rfl 0 rfl ?_
  refine g_iload_n F dL_law_429 rfl 3 rfl ?_
  refine g_iconst F (v := 1) dL_law_430 (by decide) ?_
  refine g_iadd F dL_law_431 ?_
  refine g_as (nI (4 * q + 1)) (nI_add (4 * q) 1) ?_
  refine g_sld F hX hbl (by omega) (by omega) dL_law_432 ?_
  refine g_aload_n F dL_law_433 rfl 0 rfl ?_
  refine g_iload_n F dL_law_434 rfl 3 rfl ?_
  refine g_iconst F (v := 2) dL_law_435 (by decide) ?_
  refine g_iadd F dL_law_436 ?_
  refine g_as (nI (4 * q + 2)) (nI_add (4 * q) 2) ?_
  refine g_sld F hX hbl (by omega) (by omega) dL_law_437 ?_
  refine g_lawM F (n := 2) (As := [.int (xs (4 * q + 1)), .int (xs (4 * q + 2))]) (st := [.int z]) hc2 gL_law_X2_turn rfl (by decide +kernel) (by decide) (RelW_x hR).2 rfl rfl (Nat.le_of_ble_eq_true rfl) dL_law_438 ?_
  refine g_icmp_eq F 1007 dL_law_441 (by decide) (fun c1 => ?_) (fun c1 => ?_)
  · exact hback wM2 wX2 hR2
  · exact absurd rfl c1
set_option maxHeartbeats 1000000 in
set_option maxRecDepth 100000 in
theorem law_12 {p : Program} {l : Launch} {e : Env} {s : State} {m : MethodId} {below : List Frame} {meth : Method} {c : Code} {D : va_G} {cI cZ cQ : ClassId} {b : Nat} {L : Nat} {xs : Nat → Int32} {x0 a0 q n G : Nat} {wM wX : va_W} (F : gFx p m c code 4 s #[Value.ref b] wsL_law RL D (gTy cI cZ cQ) (fun z => s.heap.size ≤ z)) (hO : ordS s) (hX : va_X b L xs s s.heap) (hbl : b < s.heap.size) (hL : L ≤ 2048) (hq : 4 * q + 4 ≤ L) (hR : RelW cI cZ cQ a0 x0 n G wM wX) (hn1 : 600 ≤ n) (hn2 : n ≤ 30000) (hG1 : 20000 ≤ G) (hG2 : G ≤ 900000) (hback : ∀ wM2 wX2, RelW cI cZ cQ a0 x0 (n + 40) (G + 1500) wM2 wX2 → Go p l e room_1 s m #[Value.ref b] below meth c (lw_Z below #[Value.ref b] s) D (fun z => s.heap.size ≤ z) 4 162 3367 (wM2 ++ wX2) 1007 [(0, .ref b), (1, .ref x0), (2, .ref a0), (3, .int (nI (4 * q)))] []) : Go p l e room_1 s m #[Value.ref b] below meth c (lw_Z below #[Value.ref b] s) D (fun z => s.heap.size ≤ z) 4 162 3367 (wM ++ wX) 446 [(0, .ref b), (1, .ref x0), (2, .ref a0), (3, .int (nI (4 * q)))] [] := by
  refine g_aload_n F dL_law_446 rfl 1 rfl ?_
  refine g_aload_n F dL_law_447 rfl 0 rfl ?_
  refine g_iload_n F dL_law_448 rfl 3 rfl ?_
  refine g_iconst F (v := 1) dL_law_449 (by decide) ?_
  refine g_iadd F dL_law_450 ?_
  refine g_as (nI (4 * q + 1)) (nI_add (4 * q) 1) ?_
  refine g_sld F hX hbl (by omega) (by omega) dL_law_451 ?_
  refine g_aload_n F dL_law_452 rfl 0 rfl ?_
  refine g_iload_n F dL_law_453 rfl 3 rfl ?_
  refine g_iconst F (v := 2) dL_law_454 (by decide) ?_
  refine g_iadd F dL_law_455 ?_
  refine g_as (nI (4 * q + 2)) (nI_add (4 * q) 2) ?_
  refine g_sld F hX hbl (by omega) (by omega) dL_law_456 ?_
  obtain ⟨wM2, wX2, z, hR2, hc1, hc2⟩ := sim_set (l := l) (D := D) hR hn1 hn2 hG1 hG2 (xs (4 * q + 1)) (xs (4 * q + 2))
  refine g_lawX F (n := 2) (As := [.int (xs (4 * q + 1)), .int (xs (4 * q + 2))]) (st := []) hc1 gL_law_X1_set rfl (by decide +kernel) (by decide) (RelW_x hR).1 rfl rfl (Nat.le_of_ble_eq_true rfl) dL_law_457 ?_
  refine g_aload_n F dL_law_460 rfl 2 rfl ?_
  refine g_aload_n F dL_law_461 rfl 0 rfl ?_
  refine g_iload_n F dL_law_462 rfl 3 rfl ?_
  refine g_iconst F (v := 1) dL_law_463 (by decide) ?_
  refine g_iadd F dL_law_464 ?_
  refine g_as (nI (4 * q + 1)) (nI_add (4 * q) 1) ?_
  refine g_sld F hX hbl (by omega) (by omega) dL_law_465 ?_
  refine g_aload_n F dL_law_466 rfl 0 rfl ?_
  refine g_iload_n F dL_law_467 rfl 3 rfl ?_
  refine g_iconst F (v := 2) dL_law_468 (by decide) ?_
  refine g_iadd F dL_law_469 ?_
  refine g_as (nI (4 * q + 2)) (nI_add (4 * q) 2) ?_
  refine g_sld F hX hbl (by omega) (by omega) dL_law_470 ?_
  refine g_lawM F (n := 2) (As := [.int (xs (4 * q + 1)), .int (xs (4 * q + 2))]) (st := [.int z]) hc2 gL_law_X2_set rfl (by decide +kernel) (by decide) (RelW_x hR).2 rfl rfl (Nat.le_of_ble_eq_true rfl) dL_law_471 ?_
  refine g_icmp_eq F 1007 dL_law_474 (by decide) (fun c1 => ?_) (fun c1 => ?_)
  · exact hback wM2 wX2 hR2
  · exact absurd rfl c1
set_option maxHeartbeats 1000000 in
set_option maxRecDepth 100000 in
theorem law_13 {p : Program} {l : Launch} {e : Env} {s : State} {m : MethodId} {below : List Frame} {meth : Method} {c : Code} {D : va_G} {cI cZ cQ : ClassId} {b : Nat} {L : Nat} {xs : Nat → Int32} {x0 a0 q n G : Nat} {wM wX : va_W} (F : gFx p m c code 4 s #[Value.ref b] wsL_law RL D (gTy cI cZ cQ) (fun z => s.heap.size ≤ z)) (hO : ordS s) (hX : va_X b L xs s s.heap) (hbl : b < s.heap.size) (hL : L ≤ 2048) (hq : 4 * q + 4 ≤ L) (hR : RelW cI cZ cQ a0 x0 n G wM wX) (hn1 : 600 ≤ n) (hn2 : n ≤ 30000) (hG1 : 20000 ≤ G) (hG2 : G ≤ 900000) (hback : ∀ wM2 wX2, RelW cI cZ cQ a0 x0 (n + 40) (G + 1500) wM2 wX2 → Go p l e room_1 s m #[Value.ref b] below meth c (lw_Z below #[Value.ref b] s) D (fun z => s.heap.size ≤ z) 4 162 3367 (wM2 ++ wX2) 1007 [(0, .ref b), (1, .ref x0), (2, .ref a0), (3, .int (nI (4 * q)))] []) : Go p l e room_1 s m #[Value.ref b] below meth c (lw_Z below #[Value.ref b] s) D (fun z => s.heap.size ≤ z) 4 162 3367 (wM ++ wX) 479 [(0, .ref b), (1, .ref x0), (2, .ref a0), (3, .int (nI (4 * q)))] [] := by
  refine g_aload_n F dL_law_479 rfl 1 rfl ?_
  obtain ⟨wM2, wX2, z, hR2, hc1, hc2⟩ := sim_undo (l := l) (D := D) hR hn1 hn2 hG1 hG2 
  refine g_lawX F (n := 0) (As := []) (st := []) hc1 gL_law_X1_undo rfl (by decide +kernel) (by decide) (RelW_x hR).1 rfl rfl (Nat.le_of_ble_eq_true rfl) dL_law_480 ?_
  refine g_aload_n F dL_law_483 rfl 2 rfl ?_
  refine g_lawM F (n := 0) (As := []) (st := [.int z]) hc2 gL_law_X2_undo rfl (by decide +kernel) (by decide) (RelW_x hR).2 rfl rfl (Nat.le_of_ble_eq_true rfl) dL_law_484 ?_
  refine g_icmp_eq F 1007 dL_law_487 (by decide) (fun c1 => ?_) (fun c1 => ?_)
  · exact hback wM2 wX2 hR2
  · exact absurd rfl c1
set_option maxHeartbeats 1000000 in
set_option maxRecDepth 100000 in
theorem law_14 {p : Program} {l : Launch} {e : Env} {s : State} {m : MethodId} {below : List Frame} {meth : Method} {c : Code} {D : va_G} {cI cZ cQ : ClassId} {b : Nat} {L : Nat} {xs : Nat → Int32} {x0 a0 q n G : Nat} {wM wX : va_W} (F : gFx p m c code 4 s #[Value.ref b] wsL_law RL D (gTy cI cZ cQ) (fun z => s.heap.size ≤ z)) (hO : ordS s) (hX : va_X b L xs s s.heap) (hbl : b < s.heap.size) (hL : L ≤ 2048) (hq : 4 * q + 4 ≤ L) (hR : RelW cI cZ cQ a0 x0 n G wM wX) (hn1 : 600 ≤ n) (hn2 : n ≤ 30000) (hG1 : 20000 ≤ G) (hG2 : G ≤ 900000) (hback : ∀ wM2 wX2, RelW cI cZ cQ a0 x0 (n + 40) (G + 1500) wM2 wX2 → Go p l e room_1 s m #[Value.ref b] below meth c (lw_Z below #[Value.ref b] s) D (fun z => s.heap.size ≤ z) 4 162 3367 (wM2 ++ wX2) 1007 [(0, .ref b), (1, .ref x0), (2, .ref a0), (3, .int (nI (4 * q)))] []) : Go p l e room_1 s m #[Value.ref b] below meth c (lw_Z below #[Value.ref b] s) D (fun z => s.heap.size ≤ z) 4 162 3367 (wM ++ wX) 492 [(0, .ref b), (1, .ref x0), (2, .ref a0), (3, .int (nI (4 * q)))] [] := by
  refine g_aload_n F dL_law_492 rfl 1 rfl ?_
  refine g_aload_n F dL_law_493 rfl 0 rfl ?_
  refine g_iload_n F dL_law_494 rfl 3 rfl ?_
  refine g_iconst F (v := 1) dL_law_495 (by decide) ?_
  refine g_iadd F dL_law_496 ?_
  refine g_as (nI (4 * q + 1)) (nI_add (4 * q) 1) ?_
  refine g_sld F hX hbl (by omega) (by omega) dL_law_497 ?_
  refine g_aload_n F dL_law_498 rfl 0 rfl ?_
  refine g_iload_n F dL_law_499 rfl 3 rfl ?_
  refine g_iconst F (v := 2) dL_law_500 (by decide) ?_
  refine g_iadd F dL_law_501 ?_
  refine g_as (nI (4 * q + 2)) (nI_add (4 * q) 2) ?_
  refine g_sld F hX hbl (by omega) (by omega) dL_law_502 ?_
  obtain ⟨wM2, wX2, z, hR2, hc1, hc2⟩ := sim_ahead (l := l) (D := D) hR hn1 hn2 hG1 hG2 (xs (4 * q + 1)) (xs (4 * q + 2))
  refine g_lawX F (n := 2) (As := [.int (xs (4 * q + 1)), .int (xs (4 * q + 2))]) (st := []) hc1 gL_law_X1_ahead rfl (by decide +kernel) (by decide) (RelW_x hR).1 rfl rfl (Nat.le_of_ble_eq_true rfl) dL_law_503 ?_
  refine g_aload_n F dL_law_506 rfl 2 rfl ?_
  refine g_aload_n F dL_law_507 rfl 0 rfl ?_
  refine g_iload_n F dL_law_508 rfl 3 rfl ?_
  refine g_iconst F (v := 1) dL_law_509 (by decide) ?_
  refine g_iadd F dL_law_510 ?_
  refine g_as (nI (4 * q + 1)) (nI_add (4 * q) 1) ?_
  refine g_sld F hX hbl (by omega) (by omega) dL_law_511 ?_
  refine g_aload_n F dL_law_512 rfl 0 rfl ?_
  refine g_iload_n F dL_law_513 rfl 3 rfl ?_
  refine g_iconst F (v := 2) dL_law_514 (by decide) ?_
  refine g_iadd F dL_law_515 ?_
  refine g_as (nI (4 * q + 2)) (nI_add (4 * q) 2) ?_
  refine g_sld F hX hbl (by omega) (by omega) dL_law_516 ?_
  refine g_lawM F (n := 2) (As := [.int (xs (4 * q + 1)), .int (xs (4 * q + 2))]) (st := [.int z]) hc2 gL_law_X2_ahead rfl (by decide +kernel) (by decide) (RelW_x hR).2 rfl rfl (Nat.le_of_ble_eq_true rfl) dL_law_517 ?_
  refine g_icmp_eq F 1007 dL_law_520 (by decide) (fun c1 => ?_) (fun c1 => ?_)
  · exact hback wM2 wX2 hR2
  · exact absurd rfl c1
set_option maxHeartbeats 1000000 in
set_option maxRecDepth 100000 in
theorem law_15 {p : Program} {l : Launch} {e : Env} {s : State} {m : MethodId} {below : List Frame} {meth : Method} {c : Code} {D : va_G} {cI cZ cQ : ClassId} {b : Nat} {L : Nat} {xs : Nat → Int32} {x0 a0 q n G : Nat} {wM wX : va_W} (F : gFx p m c code 4 s #[Value.ref b] wsL_law RL D (gTy cI cZ cQ) (fun z => s.heap.size ≤ z)) (hO : ordS s) (hX : va_X b L xs s s.heap) (hbl : b < s.heap.size) (hL : L ≤ 2048) (hq : 4 * q + 4 ≤ L) (hR : RelW cI cZ cQ a0 x0 n G wM wX) (hn1 : 600 ≤ n) (hn2 : n ≤ 30000) (hG1 : 20000 ≤ G) (hG2 : G ≤ 900000) (hback : ∀ wM2 wX2, RelW cI cZ cQ a0 x0 (n + 40) (G + 1500) wM2 wX2 → Go p l e room_1 s m #[Value.ref b] below meth c (lw_Z below #[Value.ref b] s) D (fun z => s.heap.size ≤ z) 4 162 3367 (wM2 ++ wX2) 1007 [(0, .ref b), (1, .ref x0), (2, .ref a0), (3, .int (nI (4 * q)))] []) : Go p l e room_1 s m #[Value.ref b] below meth c (lw_Z below #[Value.ref b] s) D (fun z => s.heap.size ≤ z) 4 162 3367 (wM ++ wX) 525 [(0, .ref b), (1, .ref x0), (2, .ref a0), (3, .int (nI (4 * q)))] [] := by
  refine g_aload_n F dL_law_525 rfl 1 rfl ?_
  refine g_aload_n F dL_law_526 rfl 0 rfl ?_
  refine g_iload_n F dL_law_527 rfl 3 rfl ?_
  refine g_iconst F (v := 1) dL_law_528 (by decide) ?_
  refine g_iadd F dL_law_529 ?_
  refine g_as (nI (4 * q + 1)) (nI_add (4 * q) 1) ?_
  refine g_sld F hX hbl (by omega) (by omega) dL_law_530 ?_
  obtain ⟨wM2, wX2, z, hR2, hc1, hc2⟩ := sim_crowd (l := l) (D := D) hR hn1 hn2 hG1 hG2 (xs (4 * q + 1))
  refine g_lawX F (n := 1) (As := [.int (xs (4 * q + 1))]) (st := []) hc1 gL_law_X1_crowd rfl (by decide +kernel) (by decide) (RelW_x hR).1 rfl rfl (Nat.le_of_ble_eq_true rfl) dL_law_531 ?_
  refine g_aload_n F dL_law_534 rfl 2 rfl ?_
  refine g_aload_n F dL_law_535 rfl 0 rfl ?_
  refine g_iload_n F dL_law_536 rfl 3 rfl ?_
  refine g_iconst F (v := 1) dL_law_537 (by decide) ?_
  refine g_iadd F dL_law_538 ?_
  refine g_as (nI (4 * q + 1)) (nI_add (4 * q) 1) ?_
  refine g_sld F hX hbl (by omega) (by omega) dL_law_539 ?_
  refine g_lawM F (n := 1) (As := [.int (xs (4 * q + 1))]) (st := [.int z]) hc2 gL_law_X2_crowd rfl (by decide +kernel) (by decide) (RelW_x hR).2 rfl rfl (Nat.le_of_ble_eq_true rfl) dL_law_540 ?_
  refine g_icmp_eq F 1007 dL_law_543 (by decide) (fun c1 => ?_) (fun c1 => ?_)
  · exact hback wM2 wX2 hR2
  · exact absurd rfl c1
theorem zL_law_c80 : Cond.constantLong RL 80 (4294967295) ∈ wsL_law := by decide +kernel
set_option maxHeartbeats 1000000 in
set_option maxRecDepth 100000 in
theorem law_16 {p : Program} {l : Launch} {e : Env} {s : State} {m : MethodId} {below : List Frame} {meth : Method} {c : Code} {D : va_G} {cI cZ cQ : ClassId} {b : Nat} {L : Nat} {xs : Nat → Int32} {x0 a0 q n G : Nat} {wM wX : va_W} (F : gFx p m c code 4 s #[Value.ref b] wsL_law RL D (gTy cI cZ cQ) (fun z => s.heap.size ≤ z)) (hO : ordS s) (hX : va_X b L xs s s.heap) (hbl : b < s.heap.size) (hL : L ≤ 2048) (hq : 4 * q + 4 ≤ L) (hR : RelW cI cZ cQ a0 x0 n G wM wX) (hn1 : 600 ≤ n) (hn2 : n ≤ 30000) (hG1 : 20000 ≤ G) (hG2 : G ≤ 900000) (hback : ∀ wM2 wX2, RelW cI cZ cQ a0 x0 (n + 40) (G + 1500) wM2 wX2 → Go p l e room_1 s m #[Value.ref b] below meth c (lw_Z below #[Value.ref b] s) D (fun z => s.heap.size ≤ z) 4 162 3367 (wM2 ++ wX2) 1007 [(0, .ref b), (1, .ref x0), (2, .ref a0), (3, .int (nI (4 * q)))] []) : Go p l e room_1 s m #[Value.ref b] below meth c (lw_Z below #[Value.ref b] s) D (fun z => s.heap.size ≤ z) 4 162 3367 (wM ++ wX) 548 [(0, .ref b), (1, .ref x0), (2, .ref a0), (3, .int (nI (4 * q)))] [] := by
  refine g_aload_n F dL_law_548 rfl 1 rfl ?_
  refine g_aload_n F dL_law_549 rfl 0 rfl ?_
  refine g_iload_n F dL_law_550 rfl 3 rfl ?_
  refine g_iconst F (v := 1) dL_law_551 (by decide) ?_
  refine g_iadd F dL_law_552 ?_
  refine g_as (nI (4 * q + 1)) (nI_add (4 * q) 1) ?_
  refine g_sld F hX hbl (by omega) (by omega) dL_law_553 ?_
  refine g_aload_n F dL_law_554 rfl 0 rfl ?_
  refine g_iload_n F dL_law_555 rfl 3 rfl ?_
  refine g_iconst F (v := 2) dL_law_556 (by decide) ?_
  refine g_iadd F dL_law_557 ?_
  refine g_as (nI (4 * q + 2)) (nI_add (4 * q) 2) ?_
  refine g_sld F hX hbl (by omega) (by omega) dL_law_558 ?_
  refine g_i2l F dL_law_559 ?_
  refine g_bipush F (v := 32) dL_law_560 (by decide) ?_
  refine g_lshl F _ dL_law_562 rfl ?_
  refine g_aload_n F dL_law_563 rfl 0 rfl ?_
  refine g_iload_n F dL_law_564 rfl 3 rfl ?_
  refine g_iconst F (v := 3) dL_law_565 (by decide) ?_
  refine g_iadd F dL_law_566 ?_
  refine g_as (nI (4 * q + 3)) (nI_add (4 * q) 3) ?_
  refine g_sld F hX hbl (by omega) (by omega) dL_law_567 ?_
  refine g_i2l F dL_law_568 ?_
  refine g_ldc2 F zL_law_c80 dL_law_569 ?_
  refine g_land F dL_law_572 ?_
  refine g_lor F dL_law_573 ?_
  obtain ⟨wM2, wX2, z, hR2, hc1, hc2⟩ := sim_jitter (l := l) (D := D) hR hn1 hn2 hG1 hG2 (xs (4 * q + 1)) (((Int32.toInt64 (xs (4 * q + 2))) <<< (Int32.toInt64 32 &&& 63)) ||| ((Int32.toInt64 (xs (4 * q + 3))) &&& 4294967295))
  refine g_lawX F (n := 2) (As := [.int (xs (4 * q + 1)), .long (((Int32.toInt64 (xs (4 * q + 2))) <<< (Int32.toInt64 32 &&& 63)) ||| ((Int32.toInt64 (xs (4 * q + 3))) &&& 4294967295))]) (st := []) hc1 gL_law_X1_jitter rfl (by decide +kernel) (by decide) (RelW_x hR).1 rfl rfl (Nat.le_of_ble_eq_true rfl) dL_law_574 ?_
  refine g_aload_n F dL_law_577 rfl 2 rfl ?_
  refine g_aload_n F dL_law_578 rfl 0 rfl ?_
  refine g_iload_n F dL_law_579 rfl 3 rfl ?_
  refine g_iconst F (v := 1) dL_law_580 (by decide) ?_
  refine g_iadd F dL_law_581 ?_
  refine g_as (nI (4 * q + 1)) (nI_add (4 * q) 1) ?_
  refine g_sld F hX hbl (by omega) (by omega) dL_law_582 ?_
  refine g_aload_n F dL_law_583 rfl 0 rfl ?_
  refine g_iload_n F dL_law_584 rfl 3 rfl ?_
  refine g_iconst F (v := 2) dL_law_585 (by decide) ?_
  refine g_iadd F dL_law_586 ?_
  refine g_as (nI (4 * q + 2)) (nI_add (4 * q) 2) ?_
  refine g_sld F hX hbl (by omega) (by omega) dL_law_587 ?_
  refine g_i2l F dL_law_588 ?_
  refine g_bipush F (v := 32) dL_law_589 (by decide) ?_
  refine g_lshl F _ dL_law_591 rfl ?_
  refine g_aload_n F dL_law_592 rfl 0 rfl ?_
  refine g_iload_n F dL_law_593 rfl 3 rfl ?_
  refine g_iconst F (v := 3) dL_law_594 (by decide) ?_
  refine g_iadd F dL_law_595 ?_
  refine g_as (nI (4 * q + 3)) (nI_add (4 * q) 3) ?_
  refine g_sld F hX hbl (by omega) (by omega) dL_law_596 ?_
  refine g_i2l F dL_law_597 ?_
  refine g_ldc2 F zL_law_c80 dL_law_598 ?_
  refine g_land F dL_law_601 ?_
  refine g_lor F dL_law_602 ?_
  refine g_lawM F (n := 2) (As := [.int (xs (4 * q + 1)), .long (((Int32.toInt64 (xs (4 * q + 2))) <<< (Int32.toInt64 32 &&& 63)) ||| ((Int32.toInt64 (xs (4 * q + 3))) &&& 4294967295))]) (st := [.int z]) hc2 gL_law_X2_jitter rfl (by decide +kernel) (by decide) (RelW_x hR).2 rfl rfl (Nat.le_of_ble_eq_true rfl) dL_law_603 ?_
  refine g_icmp_eq F 1007 dL_law_606 (by decide) (fun c1 => ?_) (fun c1 => ?_)
  · exact hback wM2 wX2 hR2
  · exact absurd rfl c1
set_option maxHeartbeats 1000000 in
set_option maxRecDepth 100000 in
theorem law_17 {p : Program} {l : Launch} {e : Env} {s : State} {m : MethodId} {below : List Frame} {meth : Method} {c : Code} {D : va_G} {cI cZ cQ : ClassId} {b : Nat} {L : Nat} {xs : Nat → Int32} {x0 a0 q n G : Nat} {wM wX : va_W} (F : gFx p m c code 4 s #[Value.ref b] wsL_law RL D (gTy cI cZ cQ) (fun z => s.heap.size ≤ z)) (hO : ordS s) (hX : va_X b L xs s s.heap) (hbl : b < s.heap.size) (hL : L ≤ 2048) (hq : 4 * q + 4 ≤ L) (hR : RelW cI cZ cQ a0 x0 n G wM wX) (hn1 : 600 ≤ n) (hn2 : n ≤ 30000) (hG1 : 20000 ≤ G) (hG2 : G ≤ 900000) (hback : ∀ wM2 wX2, RelW cI cZ cQ a0 x0 (n + 40) (G + 1500) wM2 wX2 → Go p l e room_1 s m #[Value.ref b] below meth c (lw_Z below #[Value.ref b] s) D (fun z => s.heap.size ≤ z) 4 162 3367 (wM2 ++ wX2) 1007 [(0, .ref b), (1, .ref x0), (2, .ref a0), (3, .int (nI (4 * q)))] []) : Go p l e room_1 s m #[Value.ref b] below meth c (lw_Z below #[Value.ref b] s) D (fun z => s.heap.size ≤ z) 4 162 3367 (wM ++ wX) 611 [(0, .ref b), (1, .ref x0), (2, .ref a0), (3, .int (nI (4 * q)))] [] := by
  refine g_aload_n F dL_law_611 rfl 1 rfl ?_
  refine g_aload_n F dL_law_612 rfl 0 rfl ?_
  refine g_iload_n F dL_law_613 rfl 3 rfl ?_
  refine g_iconst F (v := 1) dL_law_614 (by decide) ?_
  refine g_iadd F dL_law_615 ?_
  refine g_as (nI (4 * q + 1)) (nI_add (4 * q) 1) ?_
  refine g_sld F hX hbl (by omega) (by omega) dL_law_616 ?_
  refine g_aload_n F dL_law_617 rfl 0 rfl ?_
  refine g_iload_n F dL_law_618 rfl 3 rfl ?_
  refine g_iconst F (v := 2) dL_law_619 (by decide) ?_
  refine g_iadd F dL_law_620 ?_
  refine g_as (nI (4 * q + 2)) (nI_add (4 * q) 2) ?_
  refine g_sld F hX hbl (by omega) (by omega) dL_law_621 ?_
  refine g_aload_n F dL_law_622 rfl 0 rfl ?_
  refine g_iload_n F dL_law_623 rfl 3 rfl ?_
  refine g_iconst F (v := 3) dL_law_624 (by decide) ?_
  refine g_iadd F dL_law_625 ?_
  refine g_as (nI (4 * q + 3)) (nI_add (4 * q) 3) ?_
  refine g_sld F hX hbl (by omega) (by omega) dL_law_626 ?_
  obtain ⟨wM2, wX2, z, hR2, hc1, hc2⟩ := sim_round (l := l) (D := D) hR hn1 hn2 hG1 hG2 (xs (4 * q + 1)) (xs (4 * q + 2)) (xs (4 * q + 3))
  refine g_lawX F (n := 3) (As := [.int (xs (4 * q + 1)), .int (xs (4 * q + 2)), .int (xs (4 * q + 3))]) (st := []) hc1 gL_law_X1_round rfl (by decide +kernel) (by decide) (RelW_x hR).1 rfl rfl (Nat.le_of_ble_eq_true rfl) dL_law_627 ?_
  refine g_aload_n F dL_law_630 rfl 2 rfl ?_
  refine g_aload_n F dL_law_631 rfl 0 rfl ?_
  refine g_iload_n F dL_law_632 rfl 3 rfl ?_
  refine g_iconst F (v := 1) dL_law_633 (by decide) ?_
  refine g_iadd F dL_law_634 ?_
  refine g_as (nI (4 * q + 1)) (nI_add (4 * q) 1) ?_
  refine g_sld F hX hbl (by omega) (by omega) dL_law_635 ?_
  refine g_aload_n F dL_law_636 rfl 0 rfl ?_
  refine g_iload_n F dL_law_637 rfl 3 rfl ?_
  refine g_iconst F (v := 2) dL_law_638 (by decide) ?_
  refine g_iadd F dL_law_639 ?_
  refine g_as (nI (4 * q + 2)) (nI_add (4 * q) 2) ?_
  refine g_sld F hX hbl (by omega) (by omega) dL_law_640 ?_
  refine g_aload_n F dL_law_641 rfl 0 rfl ?_
  refine g_iload_n F dL_law_642 rfl 3 rfl ?_
  refine g_iconst F (v := 3) dL_law_643 (by decide) ?_
  refine g_iadd F dL_law_644 ?_
  refine g_as (nI (4 * q + 3)) (nI_add (4 * q) 3) ?_
  refine g_sld F hX hbl (by omega) (by omega) dL_law_645 ?_
  refine g_lawM F (n := 3) (As := [.int (xs (4 * q + 1)), .int (xs (4 * q + 2)), .int (xs (4 * q + 3))]) (st := [.int z]) hc2 gL_law_X2_round rfl (by decide +kernel) (by decide) (RelW_x hR).2 rfl rfl (Nat.le_of_ble_eq_true rfl) dL_law_646 ?_
  refine g_icmp_eq F 1007 dL_law_649 (by decide) (fun c1 => ?_) (fun c1 => ?_)
  · exact hback wM2 wX2 hR2
  · exact absurd rfl c1
set_option maxHeartbeats 1000000 in
set_option maxRecDepth 100000 in
theorem law_18 {p : Program} {l : Launch} {e : Env} {s : State} {m : MethodId} {below : List Frame} {meth : Method} {c : Code} {D : va_G} {cI cZ cQ : ClassId} {b : Nat} {L : Nat} {xs : Nat → Int32} {x0 a0 q n G : Nat} {wM wX : va_W} (F : gFx p m c code 4 s #[Value.ref b] wsL_law RL D (gTy cI cZ cQ) (fun z => s.heap.size ≤ z)) (hO : ordS s) (hX : va_X b L xs s s.heap) (hbl : b < s.heap.size) (hL : L ≤ 2048) (hq : 4 * q + 4 ≤ L) (hR : RelW cI cZ cQ a0 x0 n G wM wX) (hn1 : 600 ≤ n) (hn2 : n ≤ 30000) (hG1 : 20000 ≤ G) (hG2 : G ≤ 900000) (hback : ∀ wM2 wX2, RelW cI cZ cQ a0 x0 (n + 40) (G + 1500) wM2 wX2 → Go p l e room_1 s m #[Value.ref b] below meth c (lw_Z below #[Value.ref b] s) D (fun z => s.heap.size ≤ z) 4 162 3367 (wM2 ++ wX2) 1007 [(0, .ref b), (1, .ref x0), (2, .ref a0), (3, .int (nI (4 * q)))] []) : Go p l e room_1 s m #[Value.ref b] below meth c (lw_Z below #[Value.ref b] s) D (fun z => s.heap.size ≤ z) 4 162 3367 (wM ++ wX) 654 [(0, .ref b), (1, .ref x0), (2, .ref a0), (3, .int (nI (4 * q)))] [] := by
  refine g_aload_n F dL_law_654 rfl 1 rfl ?_
  refine g_aload_n F dL_law_655 rfl 0 rfl ?_
  refine g_iload_n F dL_law_656 rfl 3 rfl ?_
  refine g_iconst F (v := 1) dL_law_657 (by decide) ?_
  refine g_iadd F dL_law_658 ?_
  refine g_as (nI (4 * q + 1)) (nI_add (4 * q) 1) ?_
  refine g_sld F hX hbl (by omega) (by omega) dL_law_659 ?_
  refine g_aload_n F dL_law_660 rfl 0 rfl ?_
  refine g_iload_n F dL_law_661 rfl 3 rfl ?_
  refine g_iconst F (v := 2) dL_law_662 (by decide) ?_
  refine g_iadd F dL_law_663 ?_
  refine g_as (nI (4 * q + 2)) (nI_add (4 * q) 2) ?_
  refine g_sld F hX hbl (by omega) (by omega) dL_law_664 ?_
  refine g_i2l F dL_law_665 ?_
  refine g_bipush F (v := 32) dL_law_666 (by decide) ?_
  refine g_lshl F _ dL_law_668 rfl ?_
  refine g_aload_n F dL_law_669 rfl 0 rfl ?_
  refine g_iload_n F dL_law_670 rfl 3 rfl ?_
  refine g_iconst F (v := 3) dL_law_671 (by decide) ?_
  refine g_iadd F dL_law_672 ?_
  refine g_as (nI (4 * q + 3)) (nI_add (4 * q) 3) ?_
  refine g_sld F hX hbl (by omega) (by omega) dL_law_673 ?_
  refine g_i2l F dL_law_674 ?_
  refine g_ldc2 F zL_law_c80 dL_law_675 ?_
  refine g_land F dL_law_678 ?_
  refine g_lor F dL_law_679 ?_
  obtain ⟨wM2, wX2, z, hR2, hc1, hc2⟩ := sim_judge (l := l) (D := D) hR hn1 hn2 hG1 hG2 (xs (4 * q + 1)) (((Int32.toInt64 (xs (4 * q + 2))) <<< (Int32.toInt64 32 &&& 63)) ||| ((Int32.toInt64 (xs (4 * q + 3))) &&& 4294967295))
  refine g_lawX F (n := 2) (As := [.int (xs (4 * q + 1)), .long (((Int32.toInt64 (xs (4 * q + 2))) <<< (Int32.toInt64 32 &&& 63)) ||| ((Int32.toInt64 (xs (4 * q + 3))) &&& 4294967295))]) (st := []) hc1 gL_law_X1_judge rfl (by decide +kernel) (by decide) (RelW_x hR).1 rfl rfl (Nat.le_of_ble_eq_true rfl) dL_law_680 ?_
  refine g_aload_n F dL_law_683 rfl 2 rfl ?_
  refine g_aload_n F dL_law_684 rfl 0 rfl ?_
  refine g_iload_n F dL_law_685 rfl 3 rfl ?_
  refine g_iconst F (v := 1) dL_law_686 (by decide) ?_
  refine g_iadd F dL_law_687 ?_
  refine g_as (nI (4 * q + 1)) (nI_add (4 * q) 1) ?_
  refine g_sld F hX hbl (by omega) (by omega) dL_law_688 ?_
  refine g_aload_n F dL_law_689 rfl 0 rfl ?_
  refine g_iload_n F dL_law_690 rfl 3 rfl ?_
  refine g_iconst F (v := 2) dL_law_691 (by decide) ?_
  refine g_iadd F dL_law_692 ?_
  refine g_as (nI (4 * q + 2)) (nI_add (4 * q) 2) ?_
  refine g_sld F hX hbl (by omega) (by omega) dL_law_693 ?_
  refine g_i2l F dL_law_694 ?_
  refine g_bipush F (v := 32) dL_law_695 (by decide) ?_
  refine g_lshl F _ dL_law_697 rfl ?_
  refine g_aload_n F dL_law_698 rfl 0 rfl ?_
  refine g_iload_n F dL_law_699 rfl 3 rfl ?_
  refine g_iconst F (v := 3) dL_law_700 (by decide) ?_
  refine g_iadd F dL_law_701 ?_
  refine g_as (nI (4 * q + 3)) (nI_add (4 * q) 3) ?_
  refine g_sld F hX hbl (by omega) (by omega) dL_law_702 ?_
  refine g_i2l F dL_law_703 ?_
  refine g_ldc2 F zL_law_c80 dL_law_704 ?_
  refine g_land F dL_law_707 ?_
  refine g_lor F dL_law_708 ?_
  refine g_lawM F (n := 2) (As := [.int (xs (4 * q + 1)), .long (((Int32.toInt64 (xs (4 * q + 2))) <<< (Int32.toInt64 32 &&& 63)) ||| ((Int32.toInt64 (xs (4 * q + 3))) &&& 4294967295))]) (st := [.int z]) hc2 gL_law_X2_judge rfl (by decide +kernel) (by decide) (RelW_x hR).2 rfl rfl (Nat.le_of_ble_eq_true rfl) dL_law_709 ?_
  refine g_icmp_eq F 1007 dL_law_712 (by decide) (fun c1 => ?_) (fun c1 => ?_)
  · exact hback wM2 wX2 hR2
  · exact absurd rfl c1
set_option maxHeartbeats 1000000 in
set_option maxRecDepth 100000 in
theorem law_19 {p : Program} {l : Launch} {e : Env} {s : State} {m : MethodId} {below : List Frame} {meth : Method} {c : Code} {D : va_G} {cI cZ cQ : ClassId} {b : Nat} {L : Nat} {xs : Nat → Int32} {x0 a0 q n G : Nat} {wM wX : va_W} (F : gFx p m c code 4 s #[Value.ref b] wsL_law RL D (gTy cI cZ cQ) (fun z => s.heap.size ≤ z)) (hO : ordS s) (hX : va_X b L xs s s.heap) (hbl : b < s.heap.size) (hL : L ≤ 2048) (hq : 4 * q + 4 ≤ L) (hR : RelW cI cZ cQ a0 x0 n G wM wX) (hn1 : 600 ≤ n) (hn2 : n ≤ 30000) (hG1 : 20000 ≤ G) (hG2 : G ≤ 900000) (hback : ∀ wM2 wX2, RelW cI cZ cQ a0 x0 (n + 40) (G + 1500) wM2 wX2 → Go p l e room_1 s m #[Value.ref b] below meth c (lw_Z below #[Value.ref b] s) D (fun z => s.heap.size ≤ z) 4 162 3367 (wM2 ++ wX2) 1007 [(0, .ref b), (1, .ref x0), (2, .ref a0), (3, .int (nI (4 * q)))] []) : Go p l e room_1 s m #[Value.ref b] below meth c (lw_Z below #[Value.ref b] s) D (fun z => s.heap.size ≤ z) 4 162 3367 (wM ++ wX) 717 [(0, .ref b), (1, .ref x0), (2, .ref a0), (3, .int (nI (4 * q)))] [] := by
  refine g_aload_n F dL_law_717 rfl 1 rfl ?_
  refine g_aload_n F dL_law_718 rfl 0 rfl ?_
  refine g_iload_n F dL_law_719 rfl 3 rfl ?_
  refine g_iconst F (v := 1) dL_law_720 (by decide) ?_
  refine g_iadd F dL_law_721 ?_
  refine g_as (nI (4 * q + 1)) (nI_add (4 * q) 1) ?_
  refine g_sld F hX hbl (by omega) (by omega) dL_law_722 ?_
  refine g_aload_n F dL_law_723 rfl 0 rfl ?_
  refine g_iload_n F dL_law_724 rfl 3 rfl ?_
  refine g_iconst F (v := 2) dL_law_725 (by decide) ?_
  refine g_iadd F dL_law_726 ?_
  refine g_as (nI (4 * q + 2)) (nI_add (4 * q) 2) ?_
  refine g_sld F hX hbl (by omega) (by omega) dL_law_727 ?_
  obtain ⟨wM2, wX2, z, hR2, hc1, hc2⟩ := sim_see (l := l) (D := D) hR hn1 hn2 hG1 hG2 (xs (4 * q + 1)) (xs (4 * q + 2))
  refine g_lawX F (n := 2) (As := [.int (xs (4 * q + 1)), .int (xs (4 * q + 2))]) (st := []) hc1 gL_law_X1_see rfl (by decide +kernel) (by decide) (RelW_x hR).1 rfl rfl (Nat.le_of_ble_eq_true rfl) dL_law_728 ?_
  refine g_aload_n F dL_law_731 rfl 2 rfl ?_
  refine g_aload_n F dL_law_732 rfl 0 rfl ?_
  refine g_iload_n F dL_law_733 rfl 3 rfl ?_
  refine g_iconst F (v := 1) dL_law_734 (by decide) ?_
  refine g_iadd F dL_law_735 ?_
  refine g_as (nI (4 * q + 1)) (nI_add (4 * q) 1) ?_
  refine g_sld F hX hbl (by omega) (by omega) dL_law_736 ?_
  refine g_aload_n F dL_law_737 rfl 0 rfl ?_
  refine g_iload_n F dL_law_738 rfl 3 rfl ?_
  refine g_iconst F (v := 2) dL_law_739 (by decide) ?_
  refine g_iadd F dL_law_740 ?_
  refine g_as (nI (4 * q + 2)) (nI_add (4 * q) 2) ?_
  refine g_sld F hX hbl (by omega) (by omega) dL_law_741 ?_
  refine g_lawM F (n := 2) (As := [.int (xs (4 * q + 1)), .int (xs (4 * q + 2))]) (st := [.int z]) hc2 gL_law_X2_see rfl (by decide +kernel) (by decide) (RelW_x hR).2 rfl rfl (Nat.le_of_ble_eq_true rfl) dL_law_742 ?_
  refine g_icmp_eq F 1007 dL_law_745 (by decide) (fun c1 => ?_) (fun c1 => ?_)
  · exact hback wM2 wX2 hR2
  · exact absurd rfl c1
set_option maxHeartbeats 1000000 in
set_option maxRecDepth 100000 in
theorem law_20 {p : Program} {l : Launch} {e : Env} {s : State} {m : MethodId} {below : List Frame} {meth : Method} {c : Code} {D : va_G} {cI cZ cQ : ClassId} {b : Nat} {L : Nat} {xs : Nat → Int32} {x0 a0 q n G : Nat} {wM wX : va_W} (F : gFx p m c code 4 s #[Value.ref b] wsL_law RL D (gTy cI cZ cQ) (fun z => s.heap.size ≤ z)) (hO : ordS s) (hX : va_X b L xs s s.heap) (hbl : b < s.heap.size) (hL : L ≤ 2048) (hq : 4 * q + 4 ≤ L) (hR : RelW cI cZ cQ a0 x0 n G wM wX) (hn1 : 600 ≤ n) (hn2 : n ≤ 30000) (hG1 : 20000 ≤ G) (hG2 : G ≤ 900000) (hback : ∀ wM2 wX2, RelW cI cZ cQ a0 x0 (n + 40) (G + 1500) wM2 wX2 → Go p l e room_1 s m #[Value.ref b] below meth c (lw_Z below #[Value.ref b] s) D (fun z => s.heap.size ≤ z) 4 162 3367 (wM2 ++ wX2) 1007 [(0, .ref b), (1, .ref x0), (2, .ref a0), (3, .int (nI (4 * q)))] []) : Go p l e room_1 s m #[Value.ref b] below meth c (lw_Z below #[Value.ref b] s) D (fun z => s.heap.size ≤ z) 4 162 3367 (wM ++ wX) 750 [(0, .ref b), (1, .ref x0), (2, .ref a0), (3, .int (nI (4 * q)))] [] := by
  refine g_aload_n F dL_law_750 rfl 1 rfl ?_
  obtain ⟨wM2, wX2, z, hR2, hc1, hc2⟩ := sim_unsee (l := l) (D := D) hR hn1 hn2 hG1 hG2 
  refine g_lawX F (n := 0) (As := []) (st := []) hc1 gL_law_X1_unsee rfl (by decide +kernel) (by decide) (RelW_x hR).1 rfl rfl (Nat.le_of_ble_eq_true rfl) dL_law_751 ?_
  refine g_aload_n F dL_law_754 rfl 2 rfl ?_
  refine g_lawM F (n := 0) (As := []) (st := [.int z]) hc2 gL_law_X2_unsee rfl (by decide +kernel) (by decide) (RelW_x hR).2 rfl rfl (Nat.le_of_ble_eq_true rfl) dL_law_755 ?_
  refine g_icmp_eq F 1007 dL_law_758 (by decide) (fun c1 => ?_) (fun c1 => ?_)
  · exact hback wM2 wX2 hR2
  · exact absurd rfl c1
set_option maxHeartbeats 1000000 in
set_option maxRecDepth 100000 in
theorem law_21 {p : Program} {l : Launch} {e : Env} {s : State} {m : MethodId} {below : List Frame} {meth : Method} {c : Code} {D : va_G} {cI cZ cQ : ClassId} {b : Nat} {L : Nat} {xs : Nat → Int32} {x0 a0 q n G : Nat} {wM wX : va_W} (F : gFx p m c code 4 s #[Value.ref b] wsL_law RL D (gTy cI cZ cQ) (fun z => s.heap.size ≤ z)) (hO : ordS s) (hX : va_X b L xs s s.heap) (hbl : b < s.heap.size) (hL : L ≤ 2048) (hq : 4 * q + 4 ≤ L) (hR : RelW cI cZ cQ a0 x0 n G wM wX) (hn1 : 600 ≤ n) (hn2 : n ≤ 30000) (hG1 : 20000 ≤ G) (hG2 : G ≤ 900000) (hback : ∀ wM2 wX2, RelW cI cZ cQ a0 x0 (n + 40) (G + 1500) wM2 wX2 → Go p l e room_1 s m #[Value.ref b] below meth c (lw_Z below #[Value.ref b] s) D (fun z => s.heap.size ≤ z) 4 162 3367 (wM2 ++ wX2) 1007 [(0, .ref b), (1, .ref x0), (2, .ref a0), (3, .int (nI (4 * q)))] []) : Go p l e room_1 s m #[Value.ref b] below meth c (lw_Z below #[Value.ref b] s) D (fun z => s.heap.size ≤ z) 4 162 3367 (wM ++ wX) 763 [(0, .ref b), (1, .ref x0), (2, .ref a0), (3, .int (nI (4 * q)))] [] := by
  refine g_aload_n F dL_law_763 rfl 1 rfl ?_
  obtain ⟨wM2, wX2, z, hR2, hc1, hc2⟩ := sim_which (l := l) (D := D) hR hn1 hn2 hG1 hG2 
  refine g_lawX F (n := 0) (As := []) (st := []) hc1 gL_law_X1_which rfl (by decide +kernel) (by decide) (RelW_x hR).1 rfl rfl (Nat.le_of_ble_eq_true rfl) dL_law_764 ?_
  refine g_aload_n F dL_law_767 rfl 2 rfl ?_
  refine g_lawM F (n := 0) (As := []) (st := [.int z]) hc2 gL_law_X2_which rfl (by decide +kernel) (by decide) (RelW_x hR).2 rfl rfl (Nat.le_of_ble_eq_true rfl) dL_law_768 ?_
  refine g_icmp_eq F 1007 dL_law_771 (by decide) (fun c1 => ?_) (fun c1 => ?_)
  · exact hback wM2 wX2 hR2
  · exact absurd rfl c1
set_option maxHeartbeats 1000000 in
set_option maxRecDepth 100000 in
theorem law_22 {p : Program} {l : Launch} {e : Env} {s : State} {m : MethodId} {below : List Frame} {meth : Method} {c : Code} {D : va_G} {cI cZ cQ : ClassId} {b : Nat} {L : Nat} {xs : Nat → Int32} {x0 a0 q n G : Nat} {wM wX : va_W} (F : gFx p m c code 4 s #[Value.ref b] wsL_law RL D (gTy cI cZ cQ) (fun z => s.heap.size ≤ z)) (hO : ordS s) (hX : va_X b L xs s s.heap) (hbl : b < s.heap.size) (hL : L ≤ 2048) (hq : 4 * q + 4 ≤ L) (hR : RelW cI cZ cQ a0 x0 n G wM wX) (hn1 : 600 ≤ n) (hn2 : n ≤ 30000) (hG1 : 20000 ≤ G) (hG2 : G ≤ 900000) (hback : ∀ wM2 wX2, RelW cI cZ cQ a0 x0 (n + 40) (G + 1500) wM2 wX2 → Go p l e room_1 s m #[Value.ref b] below meth c (lw_Z below #[Value.ref b] s) D (fun z => s.heap.size ≤ z) 4 162 3367 (wM2 ++ wX2) 1007 [(0, .ref b), (1, .ref x0), (2, .ref a0), (3, .int (nI (4 * q)))] []) : Go p l e room_1 s m #[Value.ref b] below meth c (lw_Z below #[Value.ref b] s) D (fun z => s.heap.size ≤ z) 4 162 3367 (wM ++ wX) 776 [(0, .ref b), (1, .ref x0), (2, .ref a0), (3, .int (nI (4 * q)))] [] := by
  refine g_aload_n F dL_law_776 rfl 1 rfl ?_
  refine g_aload_n F dL_law_777 rfl 0 rfl ?_
  refine g_iload_n F dL_law_778 rfl 3 rfl ?_
  refine g_iconst F (v := 1) dL_law_779 (by decide) ?_
  refine g_iadd F dL_law_780 ?_
  refine g_as (nI (4 * q + 1)) (nI_add (4 * q) 1) ?_
  refine g_sld F hX hbl (by omega) (by omega) dL_law_781 ?_
  refine g_aload_n F dL_law_782 rfl 0 rfl ?_
  refine g_iload_n F dL_law_783 rfl 3 rfl ?_
  refine g_iconst F (v := 2) dL_law_784 (by decide) ?_
  refine g_iadd F dL_law_785 ?_
  refine g_as (nI (4 * q + 2)) (nI_add (4 * q) 2) ?_
  refine g_sld F hX hbl (by omega) (by omega) dL_law_786 ?_
  refine g_if_eq F 794 dL_law_787 (by decide) (fun c1 => ?_) (fun c1 => ?_)
  · refine g_iconst F (v := 0) dL_law_794 (by decide) ?_
    rcases sim_share (l := l) (D := D) hR hn1 hn2 hG1 hG2 (xs (4 * q + 1)) 0 with ⟨wM2, wX2, z, hR2, hc1, hc2⟩ | ⟨wM2, wX2, z, hR2, hc1, hc2⟩
    · refine g_lawX F (n := 2) (As := [.int (xs (4 * q + 1)), .int 0]) (st := []) hc1 gL_law_X1_share rfl (by decide +kernel) (by decide) (RelW_x hR).1 rfl rfl (Nat.le_of_ble_eq_true rfl) dL_law_795 ?_
      refine g_aload_n F dL_law_798 rfl 2 rfl ?_
      refine g_aload_n F dL_law_799 rfl 0 rfl ?_
      refine g_iload_n F dL_law_800 rfl 3 rfl ?_
      refine g_iconst F (v := 1) dL_law_801 (by decide) ?_
      refine g_iadd F dL_law_802 ?_
      refine g_as (nI (4 * q + 1)) (nI_add (4 * q) 1) ?_
      refine g_sld F hX hbl (by omega) (by omega) dL_law_803 ?_
      refine g_aload_n F dL_law_804 rfl 0 rfl ?_
      refine g_iload_n F dL_law_805 rfl 3 rfl ?_
      refine g_iconst F (v := 2) dL_law_806 (by decide) ?_
      refine g_iadd F dL_law_807 ?_
      refine g_as (nI (4 * q + 2)) (nI_add (4 * q) 2) ?_
      refine g_sld F hX hbl (by omega) (by omega) dL_law_808 ?_
      refine g_if_eq F 816 dL_law_809 (by decide) (fun c2 => ?_) (fun c2 => ?_)
      · refine g_iconst F (v := 0) dL_law_816 (by decide) ?_
        refine g_lawM F (n := 2) (As := [.int (xs (4 * q + 1)), .int 0]) (st := [.int z]) hc2 gL_law_X2_share rfl (by decide +kernel) (by decide) (RelW_x hR).2 rfl rfl (Nat.le_of_ble_eq_true rfl) dL_law_817 ?_
        refine g_icmp_eq F 1007 dL_law_820 (by decide) (fun c3 => ?_) (fun c3 => ?_)
        · exact hback wM2 wX2 hR2
        · exact absurd rfl c3
      · exact absurd c1 c2
    · refine g_lawE F hO (n := 2) (As := [.int (xs (4 * q + 1)), .int 0]) (st := []) hc1 gL_law_X1_share rfl (by decide +kernel) (by decide) (RelW_x hR).1 rfl rfl (Nat.le_of_ble_eq_true rfl) dL_law_795 ?_
      refine g_aload_n F dL_law_798 rfl 2 rfl ?_
      refine g_aload_n F dL_law_799 rfl 0 rfl ?_
      refine g_iload_n F dL_law_800 rfl 3 rfl ?_
      refine g_iconst F (v := 1) dL_law_801 (by decide) ?_
      refine g_iadd F dL_law_802 ?_
      refine g_as (nI (4 * q + 1)) (nI_add (4 * q) 1) ?_
      refine g_sld F hX hbl (by omega) (by omega) dL_law_803 ?_
      refine g_aload_n F dL_law_804 rfl 0 rfl ?_
      refine g_iload_n F dL_law_805 rfl 3 rfl ?_
      refine g_iconst F (v := 2) dL_law_806 (by decide) ?_
      refine g_iadd F dL_law_807 ?_
      refine g_as (nI (4 * q + 2)) (nI_add (4 * q) 2) ?_
      refine g_sld F hX hbl (by omega) (by omega) dL_law_808 ?_
      refine g_if_eq F 816 dL_law_809 (by decide) (fun c4 => ?_) (fun c4 => ?_)
      · refine g_iconst F (v := 0) dL_law_816 (by decide) ?_
        refine g_lawM F (n := 2) (As := [.int (xs (4 * q + 1)), .int 0]) (st := [.int z]) hc2 gL_law_X2_share rfl (by decide +kernel) (by decide) (RelW_x hR).2 rfl rfl (Nat.le_of_ble_eq_true rfl) dL_law_817 ?_
        refine g_icmp_eq F 1007 dL_law_820 (by decide) (fun c5 => ?_) (fun c5 => ?_)
        · exact hback wM2 wX2 hR2
        · exact absurd rfl c5
      · exact absurd c1 c4
  · refine g_iconst F (v := 1) dL_law_790 (by decide) ?_
    refine g_goto F 795 dL_law_791 (by decide) ?_
    rcases sim_share (l := l) (D := D) hR hn1 hn2 hG1 hG2 (xs (4 * q + 1)) 1 with ⟨wM2, wX2, z, hR2, hc1, hc2⟩ | ⟨wM2, wX2, z, hR2, hc1, hc2⟩
    · refine g_lawX F (n := 2) (As := [.int (xs (4 * q + 1)), .int 1]) (st := []) hc1 gL_law_X1_share rfl (by decide +kernel) (by decide) (RelW_x hR).1 rfl rfl (Nat.le_of_ble_eq_true rfl) dL_law_795 ?_
      refine g_aload_n F dL_law_798 rfl 2 rfl ?_
      refine g_aload_n F dL_law_799 rfl 0 rfl ?_
      refine g_iload_n F dL_law_800 rfl 3 rfl ?_
      refine g_iconst F (v := 1) dL_law_801 (by decide) ?_
      refine g_iadd F dL_law_802 ?_
      refine g_as (nI (4 * q + 1)) (nI_add (4 * q) 1) ?_
      refine g_sld F hX hbl (by omega) (by omega) dL_law_803 ?_
      refine g_aload_n F dL_law_804 rfl 0 rfl ?_
      refine g_iload_n F dL_law_805 rfl 3 rfl ?_
      refine g_iconst F (v := 2) dL_law_806 (by decide) ?_
      refine g_iadd F dL_law_807 ?_
      refine g_as (nI (4 * q + 2)) (nI_add (4 * q) 2) ?_
      refine g_sld F hX hbl (by omega) (by omega) dL_law_808 ?_
      refine g_if_eq F 816 dL_law_809 (by decide) (fun c6 => ?_) (fun c6 => ?_)
      · exact absurd c6 c1
      · refine g_iconst F (v := 1) dL_law_812 (by decide) ?_
        refine g_goto F 817 dL_law_813 (by decide) ?_
        refine g_lawM F (n := 2) (As := [.int (xs (4 * q + 1)), .int 1]) (st := [.int z]) hc2 gL_law_X2_share rfl (by decide +kernel) (by decide) (RelW_x hR).2 rfl rfl (Nat.le_of_ble_eq_true rfl) dL_law_817 ?_
        refine g_icmp_eq F 1007 dL_law_820 (by decide) (fun c7 => ?_) (fun c7 => ?_)
        · exact hback wM2 wX2 hR2
        · exact absurd rfl c7
    · refine g_lawE F hO (n := 2) (As := [.int (xs (4 * q + 1)), .int 1]) (st := []) hc1 gL_law_X1_share rfl (by decide +kernel) (by decide) (RelW_x hR).1 rfl rfl (Nat.le_of_ble_eq_true rfl) dL_law_795 ?_
      refine g_aload_n F dL_law_798 rfl 2 rfl ?_
      refine g_aload_n F dL_law_799 rfl 0 rfl ?_
      refine g_iload_n F dL_law_800 rfl 3 rfl ?_
      refine g_iconst F (v := 1) dL_law_801 (by decide) ?_
      refine g_iadd F dL_law_802 ?_
      refine g_as (nI (4 * q + 1)) (nI_add (4 * q) 1) ?_
      refine g_sld F hX hbl (by omega) (by omega) dL_law_803 ?_
      refine g_aload_n F dL_law_804 rfl 0 rfl ?_
      refine g_iload_n F dL_law_805 rfl 3 rfl ?_
      refine g_iconst F (v := 2) dL_law_806 (by decide) ?_
      refine g_iadd F dL_law_807 ?_
      refine g_as (nI (4 * q + 2)) (nI_add (4 * q) 2) ?_
      refine g_sld F hX hbl (by omega) (by omega) dL_law_808 ?_
      refine g_if_eq F 816 dL_law_809 (by decide) (fun c8 => ?_) (fun c8 => ?_)
      · exact absurd c8 c1
      · refine g_iconst F (v := 1) dL_law_812 (by decide) ?_
        refine g_goto F 817 dL_law_813 (by decide) ?_
        refine g_lawM F (n := 2) (As := [.int (xs (4 * q + 1)), .int 1]) (st := [.int z]) hc2 gL_law_X2_share rfl (by decide +kernel) (by decide) (RelW_x hR).2 rfl rfl (Nat.le_of_ble_eq_true rfl) dL_law_817 ?_
        refine g_icmp_eq F 1007 dL_law_820 (by decide) (fun c9 => ?_) (fun c9 => ?_)
        · exact hback wM2 wX2 hR2
        · exact absurd rfl c9
set_option maxHeartbeats 1000000 in
set_option maxRecDepth 100000 in
theorem law_23 {p : Program} {l : Launch} {e : Env} {s : State} {m : MethodId} {below : List Frame} {meth : Method} {c : Code} {D : va_G} {cI cZ cQ : ClassId} {b : Nat} {L : Nat} {xs : Nat → Int32} {x0 a0 q n G : Nat} {wM wX : va_W} (F : gFx p m c code 4 s #[Value.ref b] wsL_law RL D (gTy cI cZ cQ) (fun z => s.heap.size ≤ z)) (hO : ordS s) (hX : va_X b L xs s s.heap) (hbl : b < s.heap.size) (hL : L ≤ 2048) (hq : 4 * q + 4 ≤ L) (hR : RelW cI cZ cQ a0 x0 n G wM wX) (hn1 : 600 ≤ n) (hn2 : n ≤ 30000) (hG1 : 20000 ≤ G) (hG2 : G ≤ 900000) (hback : ∀ wM2 wX2, RelW cI cZ cQ a0 x0 (n + 40) (G + 1500) wM2 wX2 → Go p l e room_1 s m #[Value.ref b] below meth c (lw_Z below #[Value.ref b] s) D (fun z => s.heap.size ≤ z) 4 162 3367 (wM2 ++ wX2) 1007 [(0, .ref b), (1, .ref x0), (2, .ref a0), (3, .int (nI (4 * q)))] []) : Go p l e room_1 s m #[Value.ref b] below meth c (lw_Z below #[Value.ref b] s) D (fun z => s.heap.size ≤ z) 4 162 3367 (wM ++ wX) 825 [(0, .ref b), (1, .ref x0), (2, .ref a0), (3, .int (nI (4 * q)))] [] := by
  refine g_aload_n F dL_law_825 rfl 1 rfl ?_
  refine g_aload_n F dL_law_826 rfl 0 rfl ?_
  refine g_iload_n F dL_law_827 rfl 3 rfl ?_
  refine g_iconst F (v := 1) dL_law_828 (by decide) ?_
  refine g_iadd F dL_law_829 ?_
  refine g_as (nI (4 * q + 1)) (nI_add (4 * q) 1) ?_
  refine g_sld F hX hbl (by omega) (by omega) dL_law_830 ?_
  refine g_aload_n F dL_law_831 rfl 0 rfl ?_
  refine g_iload_n F dL_law_832 rfl 3 rfl ?_
  refine g_iconst F (v := 2) dL_law_833 (by decide) ?_
  refine g_iadd F dL_law_834 ?_
  refine g_as (nI (4 * q + 2)) (nI_add (4 * q) 2) ?_
  refine g_sld F hX hbl (by omega) (by omega) dL_law_835 ?_
  refine g_aload_n F dL_law_836 rfl 0 rfl ?_
  refine g_iload_n F dL_law_837 rfl 3 rfl ?_
  refine g_iconst F (v := 3) dL_law_838 (by decide) ?_
  refine g_iadd F dL_law_839 ?_
  refine g_as (nI (4 * q + 3)) (nI_add (4 * q) 3) ?_
  refine g_sld F hX hbl (by omega) (by omega) dL_law_840 ?_
  refine g_if_eq F 848 dL_law_841 (by decide) (fun c1 => ?_) (fun c1 => ?_)
  · refine g_iconst F (v := 0) dL_law_848 (by decide) ?_
    obtain ⟨wM2, wX2, z, hR2, hc1, hc2⟩ := sim_chance (l := l) (D := D) hR hn1 hn2 hG1 hG2 (xs (4 * q + 1)) (xs (4 * q + 2)) 0
    refine g_lawX F (n := 3) (As := [.int (xs (4 * q + 1)), .int (xs (4 * q + 2)), .int 0]) (st := []) hc1 gL_law_X1_chance rfl (by decide +kernel) (by decide) (RelW_x hR).1 rfl rfl (Nat.le_of_ble_eq_true rfl) dL_law_849 ?_
    refine g_aload_n F dL_law_852 rfl 2 rfl ?_
    refine g_aload_n F dL_law_853 rfl 0 rfl ?_
    refine g_iload_n F dL_law_854 rfl 3 rfl ?_
    refine g_iconst F (v := 1) dL_law_855 (by decide) ?_
    refine g_iadd F dL_law_856 ?_
    refine g_as (nI (4 * q + 1)) (nI_add (4 * q) 1) ?_
    refine g_sld F hX hbl (by omega) (by omega) dL_law_857 ?_
    refine g_aload_n F dL_law_858 rfl 0 rfl ?_
    refine g_iload_n F dL_law_859 rfl 3 rfl ?_
    refine g_iconst F (v := 2) dL_law_860 (by decide) ?_
    refine g_iadd F dL_law_861 ?_
    refine g_as (nI (4 * q + 2)) (nI_add (4 * q) 2) ?_
    refine g_sld F hX hbl (by omega) (by omega) dL_law_862 ?_
    refine g_aload_n F dL_law_863 rfl 0 rfl ?_
    refine g_iload_n F dL_law_864 rfl 3 rfl ?_
    refine g_iconst F (v := 3) dL_law_865 (by decide) ?_
    refine g_iadd F dL_law_866 ?_
    refine g_as (nI (4 * q + 3)) (nI_add (4 * q) 3) ?_
    refine g_sld F hX hbl (by omega) (by omega) dL_law_867 ?_
    refine g_if_eq F 875 dL_law_868 (by decide) (fun c2 => ?_) (fun c2 => ?_)
    · refine g_iconst F (v := 0) dL_law_875 (by decide) ?_
      refine g_lawM F (n := 3) (As := [.int (xs (4 * q + 1)), .int (xs (4 * q + 2)), .int 0]) (st := [.int z]) hc2 gL_law_X2_chance rfl (by decide +kernel) (by decide) (RelW_x hR).2 rfl rfl (Nat.le_of_ble_eq_true rfl) dL_law_876 ?_
      refine g_icmp_eq F 1007 dL_law_879 (by decide) (fun c3 => ?_) (fun c3 => ?_)
      · exact hback wM2 wX2 hR2
      · exact absurd rfl c3
    · exact absurd c1 c2
  · refine g_iconst F (v := 1) dL_law_844 (by decide) ?_
    refine g_goto F 849 dL_law_845 (by decide) ?_
    obtain ⟨wM2, wX2, z, hR2, hc1, hc2⟩ := sim_chance (l := l) (D := D) hR hn1 hn2 hG1 hG2 (xs (4 * q + 1)) (xs (4 * q + 2)) 1
    refine g_lawX F (n := 3) (As := [.int (xs (4 * q + 1)), .int (xs (4 * q + 2)), .int 1]) (st := []) hc1 gL_law_X1_chance rfl (by decide +kernel) (by decide) (RelW_x hR).1 rfl rfl (Nat.le_of_ble_eq_true rfl) dL_law_849 ?_
    refine g_aload_n F dL_law_852 rfl 2 rfl ?_
    refine g_aload_n F dL_law_853 rfl 0 rfl ?_
    refine g_iload_n F dL_law_854 rfl 3 rfl ?_
    refine g_iconst F (v := 1) dL_law_855 (by decide) ?_
    refine g_iadd F dL_law_856 ?_
    refine g_as (nI (4 * q + 1)) (nI_add (4 * q) 1) ?_
    refine g_sld F hX hbl (by omega) (by omega) dL_law_857 ?_
    refine g_aload_n F dL_law_858 rfl 0 rfl ?_
    refine g_iload_n F dL_law_859 rfl 3 rfl ?_
    refine g_iconst F (v := 2) dL_law_860 (by decide) ?_
    refine g_iadd F dL_law_861 ?_
    refine g_as (nI (4 * q + 2)) (nI_add (4 * q) 2) ?_
    refine g_sld F hX hbl (by omega) (by omega) dL_law_862 ?_
    refine g_aload_n F dL_law_863 rfl 0 rfl ?_
    refine g_iload_n F dL_law_864 rfl 3 rfl ?_
    refine g_iconst F (v := 3) dL_law_865 (by decide) ?_
    refine g_iadd F dL_law_866 ?_
    refine g_as (nI (4 * q + 3)) (nI_add (4 * q) 3) ?_
    refine g_sld F hX hbl (by omega) (by omega) dL_law_867 ?_
    refine g_if_eq F 875 dL_law_868 (by decide) (fun c4 => ?_) (fun c4 => ?_)
    · exact absurd c4 c1
    · refine g_iconst F (v := 1) dL_law_871 (by decide) ?_
      refine g_goto F 876 dL_law_872 (by decide) ?_
      refine g_lawM F (n := 3) (As := [.int (xs (4 * q + 1)), .int (xs (4 * q + 2)), .int 1]) (st := [.int z]) hc2 gL_law_X2_chance rfl (by decide +kernel) (by decide) (RelW_x hR).2 rfl rfl (Nat.le_of_ble_eq_true rfl) dL_law_876 ?_
      refine g_icmp_eq F 1007 dL_law_879 (by decide) (fun c5 => ?_) (fun c5 => ?_)
      · exact hback wM2 wX2 hR2
      · exact absurd rfl c5
set_option maxHeartbeats 1000000 in
set_option maxRecDepth 100000 in
theorem law_24 {p : Program} {l : Launch} {e : Env} {s : State} {m : MethodId} {below : List Frame} {meth : Method} {c : Code} {D : va_G} {cI cZ cQ : ClassId} {b : Nat} {L : Nat} {xs : Nat → Int32} {x0 a0 q n G : Nat} {wM wX : va_W} (F : gFx p m c code 4 s #[Value.ref b] wsL_law RL D (gTy cI cZ cQ) (fun z => s.heap.size ≤ z)) (hO : ordS s) (hX : va_X b L xs s s.heap) (hbl : b < s.heap.size) (hL : L ≤ 2048) (hq : 4 * q + 4 ≤ L) (hR : RelW cI cZ cQ a0 x0 n G wM wX) (hn1 : 600 ≤ n) (hn2 : n ≤ 30000) (hG1 : 20000 ≤ G) (hG2 : G ≤ 900000) (hback : ∀ wM2 wX2, RelW cI cZ cQ a0 x0 (n + 40) (G + 1500) wM2 wX2 → Go p l e room_1 s m #[Value.ref b] below meth c (lw_Z below #[Value.ref b] s) D (fun z => s.heap.size ≤ z) 4 162 3367 (wM2 ++ wX2) 1007 [(0, .ref b), (1, .ref x0), (2, .ref a0), (3, .int (nI (4 * q)))] []) : Go p l e room_1 s m #[Value.ref b] below meth c (lw_Z below #[Value.ref b] s) D (fun z => s.heap.size ≤ z) 4 162 3367 (wM ++ wX) 884 [(0, .ref b), (1, .ref x0), (2, .ref a0), (3, .int (nI (4 * q)))] [] := by
  refine g_aload_n F dL_law_884 rfl 1 rfl ?_
  refine g_aload_n F dL_law_885 rfl 0 rfl ?_
  refine g_iload_n F dL_law_886 rfl 3 rfl ?_
  refine g_iconst F (v := 1) dL_law_887 (by decide) ?_
  refine g_iadd F dL_law_888 ?_
  refine g_as (nI (4 * q + 1)) (nI_add (4 * q) 1) ?_
  refine g_sld F hX hbl (by omega) (by omega) dL_law_889 ?_
  refine g_i2l F dL_law_890 ?_
  refine g_bipush F (v := 32) dL_law_891 (by decide) ?_
  refine g_lshl F _ dL_law_893 rfl ?_
  refine g_aload_n F dL_law_894 rfl 0 rfl ?_
  refine g_iload_n F dL_law_895 rfl 3 rfl ?_
  refine g_iconst F (v := 2) dL_law_896 (by decide) ?_
  refine g_iadd F dL_law_897 ?_
  refine g_as (nI (4 * q + 2)) (nI_add (4 * q) 2) ?_
  refine g_sld F hX hbl (by omega) (by omega) dL_law_898 ?_
  refine g_i2l F dL_law_899 ?_
  refine g_ldc2 F zL_law_c80 dL_law_900 ?_
  refine g_land F dL_law_903 ?_
  refine g_lor F dL_law_904 ?_
  obtain ⟨wM2, wX2, z, hR2, hc1, hc2⟩ := sim_seed (l := l) (D := D) hR hn1 hn2 hG1 hG2 (((Int32.toInt64 (xs (4 * q + 1))) <<< (Int32.toInt64 32 &&& 63)) ||| ((Int32.toInt64 (xs (4 * q + 2))) &&& 4294967295))
  refine g_lawX F (n := 1) (As := [.long (((Int32.toInt64 (xs (4 * q + 1))) <<< (Int32.toInt64 32 &&& 63)) ||| ((Int32.toInt64 (xs (4 * q + 2))) &&& 4294967295))]) (st := []) hc1 gL_law_X1_seed rfl (by decide +kernel) (by decide) (RelW_x hR).1 rfl rfl (Nat.le_of_ble_eq_true rfl) dL_law_905 ?_
  refine g_aload_n F dL_law_908 rfl 2 rfl ?_
  refine g_aload_n F dL_law_909 rfl 0 rfl ?_
  refine g_iload_n F dL_law_910 rfl 3 rfl ?_
  refine g_iconst F (v := 1) dL_law_911 (by decide) ?_
  refine g_iadd F dL_law_912 ?_
  refine g_as (nI (4 * q + 1)) (nI_add (4 * q) 1) ?_
  refine g_sld F hX hbl (by omega) (by omega) dL_law_913 ?_
  refine g_i2l F dL_law_914 ?_
  refine g_bipush F (v := 32) dL_law_915 (by decide) ?_
  refine g_lshl F _ dL_law_917 rfl ?_
  refine g_aload_n F dL_law_918 rfl 0 rfl ?_
  refine g_iload_n F dL_law_919 rfl 3 rfl ?_
  refine g_iconst F (v := 2) dL_law_920 (by decide) ?_
  refine g_iadd F dL_law_921 ?_
  refine g_as (nI (4 * q + 2)) (nI_add (4 * q) 2) ?_
  refine g_sld F hX hbl (by omega) (by omega) dL_law_922 ?_
  refine g_i2l F dL_law_923 ?_
  refine g_ldc2 F zL_law_c80 dL_law_924 ?_
  refine g_land F dL_law_927 ?_
  refine g_lor F dL_law_928 ?_
  refine g_lawM F (n := 1) (As := [.long (((Int32.toInt64 (xs (4 * q + 1))) <<< (Int32.toInt64 32 &&& 63)) ||| ((Int32.toInt64 (xs (4 * q + 2))) &&& 4294967295))]) (st := [.long z]) hc2 gL_law_X2_seed rfl (by decide +kernel) (by decide) (RelW_x hR).2 rfl rfl (Nat.le_of_ble_eq_true rfl) dL_law_929 ?_
  refine g_lcmp F dL_law_932 ?_
  refine g_if_eq F 1007 dL_law_933 (by decide) (fun c1 => ?_) (fun c1 => ?_)
  · exact hback wM2 wX2 hR2
  · exact absurd (lg_self _) c1
set_option maxHeartbeats 1000000 in
set_option maxRecDepth 100000 in
theorem law_25 {p : Program} {l : Launch} {e : Env} {s : State} {m : MethodId} {below : List Frame} {meth : Method} {c : Code} {D : va_G} {cI cZ cQ : ClassId} {b : Nat} {L : Nat} {xs : Nat → Int32} {x0 a0 q n G : Nat} {wM wX : va_W} (F : gFx p m c code 4 s #[Value.ref b] wsL_law RL D (gTy cI cZ cQ) (fun z => s.heap.size ≤ z)) (hO : ordS s) (hX : va_X b L xs s s.heap) (hbl : b < s.heap.size) (hL : L ≤ 2048) (hq : 4 * q + 4 ≤ L) (hR : RelW cI cZ cQ a0 x0 n G wM wX) (hn1 : 600 ≤ n) (hn2 : n ≤ 30000) (hG1 : 20000 ≤ G) (hG2 : G ≤ 900000) (hback : ∀ wM2 wX2, RelW cI cZ cQ a0 x0 (n + 40) (G + 1500) wM2 wX2 → Go p l e room_1 s m #[Value.ref b] below meth c (lw_Z below #[Value.ref b] s) D (fun z => s.heap.size ≤ z) 4 162 3367 (wM2 ++ wX2) 1007 [(0, .ref b), (1, .ref x0), (2, .ref a0), (3, .int (nI (4 * q)))] []) : Go p l e room_1 s m #[Value.ref b] below meth c (lw_Z below #[Value.ref b] s) D (fun z => s.heap.size ≤ z) 4 162 3367 (wM ++ wX) 938 [(0, .ref b), (1, .ref x0), (2, .ref a0), (3, .int (nI (4 * q)))] [] := by
  refine g_aload_n F dL_law_938 rfl 1 rfl ?_
  refine g_aload_n F dL_law_939 rfl 0 rfl ?_
  refine g_iload_n F dL_law_940 rfl 3 rfl ?_
  refine g_iconst F (v := 1) dL_law_941 (by decide) ?_
  refine g_iadd F dL_law_942 ?_
  refine g_as (nI (4 * q + 1)) (nI_add (4 * q) 1) ?_
  refine g_sld F hX hbl (by omega) (by omega) dL_law_943 ?_
  obtain ⟨wM2, wX2, z, hR2, hc1, hc2⟩ := sim_drawn (l := l) (D := D) hR hn1 hn2 hG1 hG2 (xs (4 * q + 1))
  refine g_lawX F (n := 1) (As := [.int (xs (4 * q + 1))]) (st := []) hc1 gL_law_X1_drawn rfl (by decide +kernel) (by decide) (RelW_x hR).1 rfl rfl (Nat.le_of_ble_eq_true rfl) dL_law_944 ?_
  refine g_aload_n F dL_law_947 rfl 2 rfl ?_
  refine g_aload_n F dL_law_948 rfl 0 rfl ?_
  refine g_iload_n F dL_law_949 rfl 3 rfl ?_
  refine g_iconst F (v := 1) dL_law_950 (by decide) ?_
  refine g_iadd F dL_law_951 ?_
  refine g_as (nI (4 * q + 1)) (nI_add (4 * q) 1) ?_
  refine g_sld F hX hbl (by omega) (by omega) dL_law_952 ?_
  refine g_lawM F (n := 1) (As := [.int (xs (4 * q + 1))]) (st := [.int z]) hc2 gL_law_X2_drawn rfl (by decide +kernel) (by decide) (RelW_x hR).2 rfl rfl (Nat.le_of_ble_eq_true rfl) dL_law_953 ?_
  refine g_icmp_eq F 1007 dL_law_956 (by decide) (fun c1 => ?_) (fun c1 => ?_)
  · exact hback wM2 wX2 hR2
  · exact absurd rfl c1
set_option maxHeartbeats 1000000 in
set_option maxRecDepth 100000 in
theorem law_26 {p : Program} {l : Launch} {e : Env} {s : State} {m : MethodId} {below : List Frame} {meth : Method} {c : Code} {D : va_G} {cI cZ cQ : ClassId} {b : Nat} {L : Nat} {xs : Nat → Int32} {x0 a0 q n G : Nat} {wM wX : va_W} (F : gFx p m c code 4 s #[Value.ref b] wsL_law RL D (gTy cI cZ cQ) (fun z => s.heap.size ≤ z)) (hO : ordS s) (hX : va_X b L xs s s.heap) (hbl : b < s.heap.size) (hL : L ≤ 2048) (hq : 4 * q + 4 ≤ L) (hR : RelW cI cZ cQ a0 x0 n G wM wX) (hn1 : 600 ≤ n) (hn2 : n ≤ 30000) (hG1 : 20000 ≤ G) (hG2 : G ≤ 900000) (hback : ∀ wM2 wX2, RelW cI cZ cQ a0 x0 (n + 40) (G + 1500) wM2 wX2 → Go p l e room_1 s m #[Value.ref b] below meth c (lw_Z below #[Value.ref b] s) D (fun z => s.heap.size ≤ z) 4 162 3367 (wM2 ++ wX2) 1007 [(0, .ref b), (1, .ref x0), (2, .ref a0), (3, .int (nI (4 * q)))] []) : Go p l e room_1 s m #[Value.ref b] below meth c (lw_Z below #[Value.ref b] s) D (fun z => s.heap.size ≤ z) 4 162 3367 (wM ++ wX) 961 [(0, .ref b), (1, .ref x0), (2, .ref a0), (3, .int (nI (4 * q)))] [] := by
  refine g_aload_n F dL_law_961 rfl 1 rfl ?_
  refine g_aload_n F dL_law_962 rfl 0 rfl ?_
  refine g_iload_n F dL_law_963 rfl 3 rfl ?_
  refine g_iconst F (v := 1) dL_law_964 (by decide) ?_
  refine g_iadd F dL_law_965 ?_
  refine g_as (nI (4 * q + 1)) (nI_add (4 * q) 1) ?_
  refine g_sld F hX hbl (by omega) (by omega) dL_law_966 ?_
  obtain ⟨wM2, wX2, z, hR2, hc1, hc2⟩ := sim_keep (l := l) (D := D) hR hn1 hn2 hG1 hG2 (xs (4 * q + 1))
  refine g_lawX F (n := 1) (As := [.int (xs (4 * q + 1))]) (st := []) hc1 gL_law_X1_keep rfl (by decide +kernel) (by decide) (RelW_x hR).1 rfl rfl (Nat.le_of_ble_eq_true rfl) dL_law_967 ?_
  refine g_aload_n F dL_law_970 rfl 2 rfl ?_
  refine g_aload_n F dL_law_971 rfl 0 rfl ?_
  refine g_iload_n F dL_law_972 rfl 3 rfl ?_
  refine g_iconst F (v := 1) dL_law_973 (by decide) ?_
  refine g_iadd F dL_law_974 ?_
  refine g_as (nI (4 * q + 1)) (nI_add (4 * q) 1) ?_
  refine g_sld F hX hbl (by omega) (by omega) dL_law_975 ?_
  refine g_lawM F (n := 1) (As := [.int (xs (4 * q + 1))]) (st := [.int z]) hc2 gL_law_X2_keep rfl (by decide +kernel) (by decide) (RelW_x hR).2 rfl rfl (Nat.le_of_ble_eq_true rfl) dL_law_976 ?_
  refine g_icmp_eq F 1007 dL_law_979 (by decide) (fun c1 => ?_) (fun c1 => ?_)
  · exact hback wM2 wX2 hR2
  · exact absurd rfl c1
set_option maxHeartbeats 1000000 in
set_option maxRecDepth 100000 in
theorem law_27 {p : Program} {l : Launch} {e : Env} {s : State} {m : MethodId} {below : List Frame} {meth : Method} {c : Code} {D : va_G} {cI cZ cQ : ClassId} {b : Nat} {L : Nat} {xs : Nat → Int32} {x0 a0 q n G : Nat} {wM wX : va_W} (F : gFx p m c code 4 s #[Value.ref b] wsL_law RL D (gTy cI cZ cQ) (fun z => s.heap.size ≤ z)) (hO : ordS s) (hX : va_X b L xs s s.heap) (hbl : b < s.heap.size) (hL : L ≤ 2048) (hq : 4 * q + 4 ≤ L) (hR : RelW cI cZ cQ a0 x0 n G wM wX) (hn1 : 600 ≤ n) (hn2 : n ≤ 30000) (hG1 : 20000 ≤ G) (hG2 : G ≤ 900000) (hback : ∀ wM2 wX2, RelW cI cZ cQ a0 x0 (n + 40) (G + 1500) wM2 wX2 → Go p l e room_1 s m #[Value.ref b] below meth c (lw_Z below #[Value.ref b] s) D (fun z => s.heap.size ≤ z) 4 162 3367 (wM2 ++ wX2) 1007 [(0, .ref b), (1, .ref x0), (2, .ref a0), (3, .int (nI (4 * q)))] []) : Go p l e room_1 s m #[Value.ref b] below meth c (lw_Z below #[Value.ref b] s) D (fun z => s.heap.size ≤ z) 4 162 3367 (wM ++ wX) 984 [(0, .ref b), (1, .ref x0), (2, .ref a0), (3, .int (nI (4 * q)))] [] := by
  refine g_aload_n F dL_law_984 rfl 1 rfl ?_
  refine g_aload_n F dL_law_985 rfl 0 rfl ?_
  refine g_iload_n F dL_law_986 rfl 3 rfl ?_
  refine g_iconst F (v := 1) dL_law_987 (by decide) ?_
  refine g_iadd F dL_law_988 ?_
  refine g_as (nI (4 * q + 1)) (nI_add (4 * q) 1) ?_
  refine g_sld F hX hbl (by omega) (by omega) dL_law_989 ?_
  obtain ⟨wM2, wX2, z, hR2, hc1, hc2⟩ := sim_again (l := l) (D := D) hR hn1 hn2 hG1 hG2 (xs (4 * q + 1))
  refine g_lawX F (n := 1) (As := [.int (xs (4 * q + 1))]) (st := []) hc1 gL_law_X1_again rfl (by decide +kernel) (by decide) (RelW_x hR).1 rfl rfl (Nat.le_of_ble_eq_true rfl) dL_law_990 ?_
  refine g_aload_n F dL_law_993 rfl 2 rfl ?_
  refine g_aload_n F dL_law_994 rfl 0 rfl ?_
  refine g_iload_n F dL_law_995 rfl 3 rfl ?_
  refine g_iconst F (v := 1) dL_law_996 (by decide) ?_
  refine g_iadd F dL_law_997 ?_
  refine g_as (nI (4 * q + 1)) (nI_add (4 * q) 1) ?_
  refine g_sld F hX hbl (by omega) (by omega) dL_law_998 ?_
  refine g_lawM F (n := 1) (As := [.int (xs (4 * q + 1))]) (st := [.int z]) hc2 gL_law_X2_again rfl (by decide +kernel) (by decide) (RelW_x hR).2 rfl rfl (Nat.le_of_ble_eq_true rfl) dL_law_999 ?_
  refine g_icmp_eq F 1007 dL_law_1002 (by decide) (fun c1 => ?_) (fun c1 => ?_)
  · exact hback wM2 wX2 hR2
  · exact absurd rfl c1
