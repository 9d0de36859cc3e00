theorem LI.le {R : (Nat → Nat) → (Nat → Nat → Int) → (Nat → Nat → Option Nat) → (Nat → Int) → (Nat → Nat → Int) → Prop} {G : GT} {h0 mm n n2 w w2 u : Nat} {Lx Lm : List Nat} {E : Nat → va_E} (h : LI R G h0 mm n n2 w u Lx Lm E) (hw : w ≤ w2) : LI R G h0 mm n n2 w2 u Lx Lm E := by
  obtain ⟨cl, ln, iv, rv, sk, ad, lnm, v, a, h1, h2, h3, h4, h5, h6⟩ := h
  exact ⟨cl, ln, iv, rv, sk, ad, lnm, v, a, h1, h2, h3, h4, by omega, h6⟩
theorem LI.mono {R R2 : (Nat → Nat) → (Nat → Nat → Int) → (Nat → Nat → Option Nat) → (Nat → Int) → (Nat → Nat → Int) → Prop} {G : GT} {h0 mm n n2 w u : Nat} {Lx Lm : List Nat} {E : Nat → va_E} (h : LI R G h0 mm n n2 w u Lx Lm E) (hr : ∀ sk iv rv v a, R sk iv rv v a → R2 sk iv rv v a) : LI R2 G h0 mm n n2 w u Lx Lm E := by
  obtain ⟨cl, ln, iv, rv, sk, ad, lnm, v, a, h1, h2, h3, h4, h5, h6⟩ := h
  exact ⟨cl, ln, iv, rv, sk, ad, lnm, v, a, h1, h2, h3, h4, h5, hr _ _ _ _ _ h6⟩
theorem LI.get {R : (Nat → Nat) → (Nat → Nat → Int) → (Nat → Nat → Option Nat) → (Nat → Int) → (Nat → Nat → Int) → Prop} {G : GT} {h0 mm n n2 w u : Nat} {Lx Lm : List Nat} {E : Nat → va_E} {P : Prop} (h : LI R G h0 mm n n2 w u Lx Lm E) (hr : ∀ sk iv rv v a, R sk iv rv v a → P) : P := by
  obtain ⟨cl, ln, iv, rv, sk, ad, lnm, v, a, h1, h2, h3, h4, h5, h6⟩ := h
  exact hr _ _ _ _ _ h6
theorem LI.next {G : GT} {h0 mm n w u : Nat} {Lx Lm : List Nat} {E : Nat → va_E} (h : LI (REL h0) G h0 mm n n w u Lx Lm E) : LI (REL h0) G h0 mm (n + 1) (n + 1) w u Lx Lm E := by
  obtain ⟨cl, ln, iv, rv, sk, ad, lnm, v, a, h1, ⟨a1, a2, a3, a4, a5⟩, h3, ⟨b1, b2, b3, b4, b5⟩, h5, h6⟩ := h
  exact ⟨cl, ln, iv, rv, sk, ad, lnm, v, a, h1, ⟨a1, a2, a3, by push_cast; omega, a5⟩, h3, ⟨b1, b2, b3, b4, by push_cast; omega⟩, h5, h6⟩
theorem law_tail {p : Program} {l : Launch} {e : Env} {s : State} {m : MethodId} {below : List Frame} {meth : Method} {c : Code} {y : MethodName} {rt : Option FieldType} {G : GT} {b h0 mm n u kc ks : Nat} {Lx Lm : List Nat} {E : Nat → va_E} (C : Cq p s m #[Value.ref b] meth c cL_law ⟨RL, y.name, y.desc⟩ rt G (fun q => s.heap.size ≤ q) 4) (hI : LI (REL h0) G h0 mm (n + 1) (n + 1) (6500 * (n + 1)) u Lx Lm E) (hu : 16 * kc + ks ≤ u) (ih : ∀ (L2 L3 : List Nat) (E3 : Nat → va_E) (kc2 ks2 u2 : Nat), LI (REL h0) G h0 mm (n + 1) (n + 1) (6500 * (n + 1)) u2 L2 L3 E3 → 16 * kc2 + ks2 ≤ u2 → wq p l e room_1 s m #[Value.ref b] below meth c G (fun q => s.heap.size ≤ q) 4 (lw_Z below #[Value.ref b] s) (L3 ++ L2) E3 kc2 ks2 18 (LV b h0 mm (n + 1)) []) : wq p l e room_1 s m #[Value.ref b] below meth c G (fun q => s.heap.size ≤ q) 4 (lw_Z below #[Value.ref b] s) (Lm ++ Lx) E kc ks 1377 (LV b h0 mm n) [] := by
  refine q_iinc (j := 0) (v := iI (6 * ((n + 1 : Nat) : Int))) (lv2 := LV b h0 mm (n + 1)) C dL_law_1377 rfl (by rw [← Int32.ofInt_add]; congr 1; all_goals (try push_cast); all_goals (try omega)) (by decide) rfl ?_
  refine q_goto (tgt := 18) C dL_law_1380 (by decide) ?_
  exact ih Lx Lm E kc ks u hI hu
theorem law_feed {p : Program} {l : Launch} {e : Env} {s : State} {m : MethodId} {below : List Frame} {meth : Method} {c : Code} {y : MethodName} {rt : Option FieldType} {G : GT} {b mi h0 mm n u kc ks Ln : Nat} {Lx Lm : List Nat} {E : Nat → va_E} {xs : Nat → Int32} {zs : Nat → Int} (C : Cq p s m #[Value.ref b] meth c cL_law ⟨RL, y.name, y.desc⟩ rt G (fun q => s.heap.size ≤ q) 4) (hM : Mir mi s) (hX : va_X b Ln xs s s.heap) (hbl : b < s.heap.size) (hzs : ∀ k, xs k = iI (zs k)) (hz : ∀ k, -2147483648 ≤ zs k ∧ zs k ≤ 2147483647) (hn6 : 6 * n + 6 ≤ Ln) (hLn : Ln ≤ 3072) (hI : LI (REL h0) G h0 mm n n (6500 * n) u Lx Lm E) (hu : 16 * kc + ks ≤ u) (ih : ∀ (L2 L3 : List Nat) (E3 : Nat → va_E) (kc2 ks2 u2 : Nat), LI (REL h0) G h0 mm (n + 1) (n + 1) (6500 * (n + 1)) u2 L2 L3 E3 → 16 * kc2 + ks2 ≤ u2 → wq p l e room_1 s m #[Value.ref b] below meth c G (fun q => s.heap.size ≤ q) 4 (lw_Z below #[Value.ref b] s) (L3 ++ L2) E3 kc2 ks2 18 (LV b h0 mm (n + 1)) []) : wq p l e room_1 s m #[Value.ref b] below meth c G (fun q => s.heap.size ≤ q) 4 (lw_Z below #[Value.ref b] s) (Lm ++ Lx) E kc ks 204 (LV b h0 mm n) [] := by
  refine q_aload_n (j := 2) C dL_law_204 rfl ?_
  refine q_ld (j := 1) C hX hbl hzs hn6 hLn (by decide) rfl dL_law_205 dL_law_206 dL_law_207 dL_law_208 dL_law_209 ?_
  refine q_ld (j := 2) C hX hbl hzs hn6 hLn (by decide) rfl dL_law_210 dL_law_211 dL_law_212 dL_law_213 dL_law_214 ?_
  refine q_ld (j := 3) C hX hbl hzs hn6 hLn (by decide) rfl dL_law_215 dL_law_216 dL_law_217 dL_law_218 dL_law_219 ?_
  refine q_ld (j := 4) C hX hbl hzs hn6 hLn (by decide) rfl dL_law_220 dL_law_221 dL_law_222 dL_law_223 dL_law_224 ?_
  refine q_ld (j := 5) C hX hbl hzs hn6 hLn (by decide) rfl dL_law_225 dL_law_226 dL_law_227 dL_law_228 dL_law_229 ?_
  refine law_press (As := [.int (iI (zs (6 * n + 1))), .int (iI (zs (6 * n + 2))), .int (iI (zs (6 * n + 3))), .int (iI (zs (6 * n + 4))), .int (iI (zs (6 * n + 5)))]) (rest := []) C hM hI (by omega) (by omega) hu (PO_feed (hz _) (hz _) (hz _) (hz _) (hz _)) dL_law_230 kV_L_13 rfl rfl rfl (Nat.le_of_ble_eq_true rfl) ⟨Nat.le_of_ble_eq_true rfl, Nat.le_of_ble_eq_true rfl⟩ (fun f1 L1 E1 kc1 ks1 u1 hf1 hI1 hu1 => ?_)
  refine q_pop C dL_law_233 rfl ?_
  refine q_aload_n (j := 1) C dL_law_234 rfl ?_
  refine q_ld (j := 1) C hX hbl hzs hn6 hLn (by decide) rfl dL_law_235 dL_law_236 dL_law_237 dL_law_238 dL_law_239 ?_
  refine q_ld (j := 2) C hX hbl hzs hn6 hLn (by decide) rfl dL_law_240 dL_law_241 dL_law_242 dL_law_243 dL_law_244 ?_
  refine q_ld (j := 3) C hX hbl hzs hn6 hLn (by decide) rfl dL_law_245 dL_law_246 dL_law_247 dL_law_248 dL_law_249 ?_
  refine q_ld (j := 4) C hX hbl hzs hn6 hLn (by decide) rfl dL_law_250 dL_law_251 dL_law_252 dL_law_253 dL_law_254 ?_
  refine q_ld (j := 5) C hX hbl hzs hn6 hLn (by decide) rfl dL_law_255 dL_law_256 dL_law_257 dL_law_258 dL_law_259 ?_
  refine law_model (As := [.int (iI (zs (6 * n + 1))), .int (iI (zs (6 * n + 2))), .int (iI (zs (6 * n + 3))), .int (iI (zs (6 * n + 4))), .int (iI (zs (6 * n + 5)))]) (rest := []) C hI1 (by omega) (by omega) hu1 (MO_feed (hz _) (hz _) (hz _) (hz _) (hz _)) (by decide) dL_law_260 kV_L_17 rfl rfl rfl (Nat.le_of_ble_eq_true rfl) ⟨Nat.le_of_ble_eq_true rfl, Nat.le_of_ble_eq_true rfl⟩ (fun f2 L2 E2 kc2 ks2 u2 hI2 hu2 => ?_)
  refine q_pop C dL_law_263 rfl ?_
  refine q_goto (tgt := 1377) C dL_law_264 (by decide) ?_
  exact law_tail C ((hI2.mono (fun sk iv rv v a ⟨v0, a0, ⟨iv0, rv0, hr, hp⟩, hq⟩ => rel_feed hr hp hq)).le (by omega)) hu2 ih
theorem law_end {p : Program} {l : Launch} {e : Env} {s : State} {m : MethodId} {below : List Frame} {meth : Method} {c : Code} {y : MethodName} {rt : Option FieldType} {G : GT} {b mi h0 mm n u kc ks Ln : Nat} {Lx Lm : List Nat} {E : Nat → va_E} {xs : Nat → Int32} {zs : Nat → Int} (C : Cq p s m #[Value.ref b] meth c cL_law ⟨RL, y.name, y.desc⟩ rt G (fun q => s.heap.size ≤ q) 4) (hM : Mir mi s) (hX : va_X b Ln xs s s.heap) (hbl : b < s.heap.size) (hzs : ∀ k, xs k = iI (zs k)) (hz : ∀ k, -2147483648 ≤ zs k ∧ zs k ≤ 2147483647) (hn6 : 6 * n + 6 ≤ Ln) (hLn : Ln ≤ 3072) (hI : LI (REL h0) G h0 mm n n (6500 * n) u Lx Lm E) (hu : 16 * kc + ks ≤ u) (ih : ∀ (L2 L3 : List Nat) (E3 : Nat → va_E) (kc2 ks2 u2 : Nat), LI (REL h0) G h0 mm (n + 1) (n + 1) (6500 * (n + 1)) u2 L2 L3 E3 → 16 * kc2 + ks2 ≤ u2 → wq p l e room_1 s m #[Value.ref b] below meth c G (fun q => s.heap.size ≤ q) 4 (lw_Z below #[Value.ref b] s) (L3 ++ L2) E3 kc2 ks2 18 (LV b h0 mm (n + 1)) []) : wq p l e room_1 s m #[Value.ref b] below meth c G (fun q => s.heap.size ≤ q) 4 (lw_Z below #[Value.ref b] s) (Lm ++ Lx) E kc ks 267 (LV b h0 mm n) [] := by
  refine q_aload_n (j := 2) C dL_law_267 rfl ?_
  refine q_ld (j := 1) C hX hbl hzs hn6 hLn (by decide) rfl dL_law_268 dL_law_269 dL_law_270 dL_law_271 dL_law_272 ?_
  refine law_press (As := [.int (iI (zs (6 * n + 1)))]) (rest := []) C hM hI (by omega) (by omega) hu (PO_end (hz _)) dL_law_273 kV_L_18 rfl rfl rfl (Nat.le_of_ble_eq_true rfl) ⟨Nat.le_of_ble_eq_true rfl, Nat.le_of_ble_eq_true rfl⟩ (fun f1 L1 E1 kc1 ks1 u1 hf1 hI1 hu1 => ?_)
  refine q_pop C dL_law_276 rfl ?_
  refine q_aload_n (j := 1) C dL_law_277 rfl ?_
  refine q_ld (j := 1) C hX hbl hzs hn6 hLn (by decide) rfl dL_law_278 dL_law_279 dL_law_280 dL_law_281 dL_law_282 ?_
  refine law_model (As := [.int (iI (zs (6 * n + 1)))]) (rest := []) C hI1 (by omega) (by omega) hu1 (MO_end (hz _)) (by decide) dL_law_283 kV_L_22 rfl rfl rfl (Nat.le_of_ble_eq_true rfl) ⟨Nat.le_of_ble_eq_true rfl, Nat.le_of_ble_eq_true rfl⟩ (fun f2 L2 E2 kc2 ks2 u2 hI2 hu2 => ?_)
  refine q_pop C dL_law_286 rfl ?_
  refine q_goto (tgt := 1377) C dL_law_287 (by decide) ?_
  exact law_tail C ((hI2.mono (fun sk iv rv v a ⟨v0, a0, ⟨iv0, rv0, hr, hp⟩, hq⟩ => rel_end hr hp hq)).le (by omega)) hu2 ih
theorem law_table {p : Program} {l : Launch} {e : Env} {s : State} {m : MethodId} {below : List Frame} {meth : Method} {c : Code} {y : MethodName} {rt : Option FieldType} {G : GT} {b mi h0 mm n u kc ks Ln : Nat} {Lx Lm : List Nat} {E : Nat → va_E} {xs : Nat → Int32} {zs : Nat → Int} (C : Cq p s m #[Value.ref b] meth c cL_law ⟨RL, y.name, y.desc⟩ rt G (fun q => s.heap.size ≤ q) 4) (hM : Mir mi s) (hX : va_X b Ln xs s s.heap) (hbl : b < s.heap.size) (hzs : ∀ k, xs k = iI (zs k)) (hz : ∀ k, -2147483648 ≤ zs k ∧ zs k ≤ 2147483647) (hn6 : 6 * n + 6 ≤ Ln) (hLn : Ln ≤ 3072) (hI : LI (REL h0) G h0 mm n n (6500 * n) u Lx Lm E) (hu : 16 * kc + ks ≤ u) (ih : ∀ (L2 L3 : List Nat) (E3 : Nat → va_E) (kc2 ks2 u2 : Nat), LI (REL h0) G h0 mm (n + 1) (n + 1) (6500 * (n + 1)) u2 L2 L3 E3 → 16 * kc2 + ks2 ≤ u2 → wq p l e room_1 s m #[Value.ref b] below meth c G (fun q => s.heap.size ≤ q) 4 (lw_Z below #[Value.ref b] s) (L3 ++ L2) E3 kc2 ks2 18 (LV b h0 mm (n + 1)) []) : wq p l e room_1 s m #[Value.ref b] below meth c G (fun q => s.heap.size ≤ q) 4 (lw_Z below #[Value.ref b] s) (Lm ++ Lx) E kc ks 290 (LV b h0 mm n) [] := by
  refine q_aload_n (j := 2) C dL_law_290 rfl ?_
  refine q_ld (j := 1) C hX hbl hzs hn6 hLn (by decide) rfl dL_law_291 dL_law_292 dL_law_293 dL_law_294 dL_law_295 ?_
  refine q_ld (j := 2) C hX hbl hzs hn6 hLn (by decide) rfl dL_law_296 dL_law_297 dL_law_298 dL_law_299 dL_law_300 ?_
  refine q_ld (j := 3) C hX hbl hzs hn6 hLn (by decide) rfl dL_law_301 dL_law_302 dL_law_303 dL_law_304 dL_law_305 ?_
  refine law_press (As := [.int (iI (zs (6 * n + 1))), .int (iI (zs (6 * n + 2))), .int (iI (zs (6 * n + 3)))]) (rest := []) C hM hI (by omega) (by omega) hu (PO_table (hz _) (hz _) (hz _)) dL_law_306 kV_L_23 rfl rfl rfl (Nat.le_of_ble_eq_true rfl) ⟨Nat.le_of_ble_eq_true rfl, Nat.le_of_ble_eq_true rfl⟩ (fun f1 L1 E1 kc1 ks1 u1 hf1 hI1 hu1 => ?_)
  refine q_pop C dL_law_309 rfl ?_
  refine q_aload_n (j := 1) C dL_law_310 rfl ?_
  refine q_ld (j := 1) C hX hbl hzs hn6 hLn (by decide) rfl dL_law_311 dL_law_312 dL_law_313 dL_law_314 dL_law_315 ?_
  refine q_ld (j := 2) C hX hbl hzs hn6 hLn (by decide) rfl dL_law_316 dL_law_317 dL_law_318 dL_law_319 dL_law_320 ?_
  refine q_ld (j := 3) C hX hbl hzs hn6 hLn (by decide) rfl dL_law_321 dL_law_322 dL_law_323 dL_law_324 dL_law_325 ?_
  refine law_model (As := [.int (iI (zs (6 * n + 1))), .int (iI (zs (6 * n + 2))), .int (iI (zs (6 * n + 3)))]) (rest := []) C hI1 (by omega) (by omega) hu1 (MO_table (hz _) (hz _) (hz _)) (by decide) dL_law_326 kV_L_27 rfl rfl rfl (Nat.le_of_ble_eq_true rfl) ⟨Nat.le_of_ble_eq_true rfl, Nat.le_of_ble_eq_true rfl⟩ (fun f2 L2 E2 kc2 ks2 u2 hI2 hu2 => ?_)
  refine q_pop C dL_law_329 rfl ?_
  refine q_goto (tgt := 1377) C dL_law_330 (by decide) ?_
  exact law_tail C ((hI2.mono (fun sk iv rv v a ⟨v0, a0, ⟨iv0, rv0, hr, hp⟩, hq⟩ => rel_table hr hp hq)).le (by omega)) hu2 ih
theorem law_join {p : Program} {l : Launch} {e : Env} {s : State} {m : MethodId} {below : List Frame} {meth : Method} {c : Code} {y : MethodName} {rt : Option FieldType} {G : GT} {b mi h0 mm n u kc ks Ln : Nat} {Lx Lm : List Nat} {E : Nat → va_E} {xs : Nat → Int32} {zs : Nat → Int} (C : Cq p s m #[Value.ref b] meth c cL_law ⟨RL, y.name, y.desc⟩ rt G (fun q => s.heap.size ≤ q) 4) (hM : Mir mi s) (hX : va_X b Ln xs s s.heap) (hbl : b < s.heap.size) (hzs : ∀ k, xs k = iI (zs k)) (hz : ∀ k, -2147483648 ≤ zs k ∧ zs k ≤ 2147483647) (hn6 : 6 * n + 6 ≤ Ln) (hLn : Ln ≤ 3072) (hI : LI (REL h0) G h0 mm n n (6500 * n) u Lx Lm E) (hu : 16 * kc + ks ≤ u) (ih : ∀ (L2 L3 : List Nat) (E3 : Nat → va_E) (kc2 ks2 u2 : Nat), LI (REL h0) G h0 mm (n + 1) (n + 1) (6500 * (n + 1)) u2 L2 L3 E3 → 16 * kc2 + ks2 ≤ u2 → wq p l e room_1 s m #[Value.ref b] below meth c G (fun q => s.heap.size ≤ q) 4 (lw_Z below #[Value.ref b] s) (L3 ++ L2) E3 kc2 ks2 18 (LV b h0 mm (n + 1)) []) : wq p l e room_1 s m #[Value.ref b] below meth c G (fun q => s.heap.size ≤ q) 4 (lw_Z below #[Value.ref b] s) (Lm ++ Lx) E kc ks 333 (LV b h0 mm n) [] := by
  refine q_aload_n (j := 2) C dL_law_333 rfl ?_
  refine q_ld (j := 1) C hX hbl hzs hn6 hLn (by decide) rfl dL_law_334 dL_law_335 dL_law_336 dL_law_337 dL_law_338 ?_
  refine q_ld (j := 2) C hX hbl hzs hn6 hLn (by decide) rfl dL_law_339 dL_law_340 dL_law_341 dL_law_342 dL_law_343 ?_
  refine law_press (As := [.int (iI (zs (6 * n + 1))), .int (iI (zs (6 * n + 2)))]) (rest := []) C hM hI (by omega) (by omega) hu (PO_join (hz _) (hz _)) dL_law_344 kV_L_28 rfl rfl rfl (Nat.le_of_ble_eq_true rfl) ⟨Nat.le_of_ble_eq_true rfl, Nat.le_of_ble_eq_true rfl⟩ (fun f1 L1 E1 kc1 ks1 u1 hf1 hI1 hu1 => ?_)
  refine q_pop C dL_law_347 rfl ?_
  refine q_aload_n (j := 1) C dL_law_348 rfl ?_
  refine q_ld (j := 1) C hX hbl hzs hn6 hLn (by decide) rfl dL_law_349 dL_law_350 dL_law_351 dL_law_352 dL_law_353 ?_
  refine q_ld (j := 2) C hX hbl hzs hn6 hLn (by decide) rfl dL_law_354 dL_law_355 dL_law_356 dL_law_357 dL_law_358 ?_
  refine law_model (As := [.int (iI (zs (6 * n + 1))), .int (iI (zs (6 * n + 2)))]) (rest := []) C hI1 (by omega) (by omega) hu1 (MO_join (hz _) (hz _)) (by decide) dL_law_359 kV_L_32 rfl rfl rfl (Nat.le_of_ble_eq_true rfl) ⟨Nat.le_of_ble_eq_true rfl, Nat.le_of_ble_eq_true rfl⟩ (fun f2 L2 E2 kc2 ks2 u2 hI2 hu2 => ?_)
  refine q_pop C dL_law_362 rfl ?_
  refine q_goto (tgt := 1377) C dL_law_363 (by decide) ?_
  exact law_tail C ((hI2.mono (fun sk iv rv v a ⟨v0, a0, ⟨iv0, rv0, hr, hp⟩, hq⟩ => rel_join hr hp hq)).le (by omega)) hu2 ih
theorem law_drop {p : Program} {l : Launch} {e : Env} {s : State} {m : MethodId} {below : List Frame} {meth : Method} {c : Code} {y : MethodName} {rt : Option FieldType} {G : GT} {b mi h0 mm n u kc ks Ln : Nat} {Lx Lm : List Nat} {E : Nat → va_E} {xs : Nat → Int32} {zs : Nat → Int} (C : Cq p s m #[Value.ref b] meth c cL_law ⟨RL, y.name, y.desc⟩ rt G (fun q => s.heap.size ≤ q) 4) (hM : Mir mi s) (hX : va_X b Ln xs s s.heap) (hbl : b < s.heap.size) (hzs : ∀ k, xs k = iI (zs k)) (hz : ∀ k, -2147483648 ≤ zs k ∧ zs k ≤ 2147483647) (hn6 : 6 * n + 6 ≤ Ln) (hLn : Ln ≤ 3072) (hI : LI (REL h0) G h0 mm n n (6500 * n) u Lx Lm E) (hu : 16 * kc + ks ≤ u) (ih : ∀ (L2 L3 : List Nat) (E3 : Nat → va_E) (kc2 ks2 u2 : Nat), LI (REL h0) G h0 mm (n + 1) (n + 1) (6500 * (n + 1)) u2 L2 L3 E3 → 16 * kc2 + ks2 ≤ u2 → wq p l e room_1 s m #[Value.ref b] below meth c G (fun q => s.heap.size ≤ q) 4 (lw_Z below #[Value.ref b] s) (L3 ++ L2) E3 kc2 ks2 18 (LV b h0 mm (n + 1)) []) : wq p l e room_1 s m #[Value.ref b] below meth c G (fun q => s.heap.size ≤ q) 4 (lw_Z below #[Value.ref b] s) (Lm ++ Lx) E kc ks 366 (LV b h0 mm n) [] := by
  refine q_aload_n (j := 2) C dL_law_366 rfl ?_
  refine q_ld (j := 1) C hX hbl hzs hn6 hLn (by decide) rfl dL_law_367 dL_law_368 dL_law_369 dL_law_370 dL_law_371 ?_
  refine law_press (As := [.int (iI (zs (6 * n + 1)))]) (rest := []) C hM hI (by omega) (by omega) hu (PO_drop (hz _)) dL_law_372 kV_L_33 rfl rfl rfl (Nat.le_of_ble_eq_true rfl) ⟨Nat.le_of_ble_eq_true rfl, Nat.le_of_ble_eq_true rfl⟩ (fun f1 L1 E1 kc1 ks1 u1 hf1 hI1 hu1 => ?_)
  refine q_pop C dL_law_375 rfl ?_
  refine q_aload_n (j := 1) C dL_law_376 rfl ?_
  refine q_ld (j := 1) C hX hbl hzs hn6 hLn (by decide) rfl dL_law_377 dL_law_378 dL_law_379 dL_law_380 dL_law_381 ?_
  refine law_model (As := [.int (iI (zs (6 * n + 1)))]) (rest := []) C hI1 (by omega) (by omega) hu1 (MO_drop (hz _)) (by decide) dL_law_382 kV_L_36 rfl rfl rfl (Nat.le_of_ble_eq_true rfl) ⟨Nat.le_of_ble_eq_true rfl, Nat.le_of_ble_eq_true rfl⟩ (fun f2 L2 E2 kc2 ks2 u2 hI2 hu2 => ?_)
  refine q_pop C dL_law_385 rfl ?_
  refine q_goto (tgt := 1377) C dL_law_386 (by decide) ?_
  exact law_tail C ((hI2.mono (fun sk iv rv v a ⟨v0, a0, ⟨iv0, rv0, hr, hp⟩, hq⟩ => rel_drop hr hp hq)).le (by omega)) hu2 ih
theorem law_rule {p : Program} {l : Launch} {e : Env} {s : State} {m : MethodId} {below : List Frame} {meth : Method} {c : Code} {y : MethodName} {rt : Option FieldType} {G : GT} {b mi h0 mm n u kc ks Ln : Nat} {Lx Lm : List Nat} {E : Nat → va_E} {xs : Nat → Int32} {zs : Nat → Int} (C : Cq p s m #[Value.ref b] meth c cL_law ⟨RL, y.name, y.desc⟩ rt G (fun q => s.heap.size ≤ q) 4) (hM : Mir mi s) (hX : va_X b Ln xs s s.heap) (hbl : b < s.heap.size) (hzs : ∀ k, xs k = iI (zs k)) (hz : ∀ k, -2147483648 ≤ zs k ∧ zs k ≤ 2147483647) (hn6 : 6 * n + 6 ≤ Ln) (hLn : Ln ≤ 3072) (hI : LI (REL h0) G h0 mm n n (6500 * n) u Lx Lm E) (hu : 16 * kc + ks ≤ u) (ih : ∀ (L2 L3 : List Nat) (E3 : Nat → va_E) (kc2 ks2 u2 : Nat), LI (REL h0) G h0 mm (n + 1) (n + 1) (6500 * (n + 1)) u2 L2 L3 E3 → 16 * kc2 + ks2 ≤ u2 → wq p l e room_1 s m #[Value.ref b] below meth c G (fun q => s.heap.size ≤ q) 4 (lw_Z below #[Value.ref b] s) (L3 ++ L2) E3 kc2 ks2 18 (LV b h0 mm (n + 1)) []) : wq p l e room_1 s m #[Value.ref b] below meth c G (fun q => s.heap.size ≤ q) 4 (lw_Z below #[Value.ref b] s) (Lm ++ Lx) E kc ks 389 (LV b h0 mm n) [] := by
  refine q_aload_n (j := 2) C dL_law_389 rfl ?_
  refine q_ld (j := 1) C hX hbl hzs hn6 hLn (by decide) rfl dL_law_390 dL_law_391 dL_law_392 dL_law_393 dL_law_394 ?_
  refine q_ld (j := 2) C hX hbl hzs hn6 hLn (by decide) rfl dL_law_395 dL_law_396 dL_law_397 dL_law_398 dL_law_399 ?_
  refine q_ld (j := 3) C hX hbl hzs hn6 hLn (by decide) rfl dL_law_400 dL_law_401 dL_law_402 dL_law_403 dL_law_404 ?_
  refine law_press (As := [.int (iI (zs (6 * n + 1))), .int (iI (zs (6 * n + 2))), .int (iI (zs (6 * n + 3)))]) (rest := []) C hM hI (by omega) (by omega) hu (PO_rule (hz _) (hz _) (hz _)) dL_law_405 kV_L_37 rfl rfl rfl (Nat.le_of_ble_eq_true rfl) ⟨Nat.le_of_ble_eq_true rfl, Nat.le_of_ble_eq_true rfl⟩ (fun f1 L1 E1 kc1 ks1 u1 hf1 hI1 hu1 => ?_)
  refine q_pop C dL_law_408 rfl ?_
  refine q_aload_n (j := 1) C dL_law_409 rfl ?_
  refine q_ld (j := 1) C hX hbl hzs hn6 hLn (by decide) rfl dL_law_410 dL_law_411 dL_law_412 dL_law_413 dL_law_414 ?_
  refine q_ld (j := 2) C hX hbl hzs hn6 hLn (by decide) rfl dL_law_415 dL_law_416 dL_law_417 dL_law_418 dL_law_419 ?_
  refine q_ld (j := 3) C hX hbl hzs hn6 hLn (by decide) rfl dL_law_420 dL_law_421 dL_law_422 dL_law_423 dL_law_424 ?_
  refine law_model (As := [.int (iI (zs (6 * n + 1))), .int (iI (zs (6 * n + 2))), .int (iI (zs (6 * n + 3)))]) (rest := []) C hI1 (by omega) (by omega) hu1 (MO_rule (hz _) (hz _) (hz _)) (by decide) dL_law_425 kV_L_40 rfl rfl rfl (Nat.le_of_ble_eq_true rfl) ⟨Nat.le_of_ble_eq_true rfl, Nat.le_of_ble_eq_true rfl⟩ (fun f2 L2 E2 kc2 ks2 u2 hI2 hu2 => ?_)
  refine q_pop C dL_law_428 rfl ?_
  refine q_goto (tgt := 1377) C dL_law_429 (by decide) ?_
  exact law_tail C ((hI2.mono (fun sk iv rv v a ⟨v0, a0, ⟨iv0, rv0, hr, hp⟩, hq⟩ => rel_rule hr hp hq)).le (by omega)) hu2 ih
theorem law_condition {p : Program} {l : Launch} {e : Env} {s : State} {m : MethodId} {below : List Frame} {meth : Method} {c : Code} {y : MethodName} {rt : Option FieldType} {G : GT} {b mi h0 mm n u kc ks Ln : Nat} {Lx Lm : List Nat} {E : Nat → va_E} {xs : Nat → Int32} {zs : Nat → Int} (C : Cq p s m #[Value.ref b] meth c cL_law ⟨RL, y.name, y.desc⟩ rt G (fun q => s.heap.size ≤ q) 4) (hM : Mir mi s) (hX : va_X b Ln xs s s.heap) (hbl : b < s.heap.size) (hzs : ∀ k, xs k = iI (zs k)) (hz : ∀ k, -2147483648 ≤ zs k ∧ zs k ≤ 2147483647) (hn6 : 6 * n + 6 ≤ Ln) (hLn : Ln ≤ 3072) (hI : LI (REL h0) G h0 mm n n (6500 * n) u Lx Lm E) (hu : 16 * kc + ks ≤ u) (ih : ∀ (L2 L3 : List Nat) (E3 : Nat → va_E) (kc2 ks2 u2 : Nat), LI (REL h0) G h0 mm (n + 1) (n + 1) (6500 * (n + 1)) u2 L2 L3 E3 → 16 * kc2 + ks2 ≤ u2 → wq p l e room_1 s m #[Value.ref b] below meth c G (fun q => s.heap.size ≤ q) 4 (lw_Z below #[Value.ref b] s) (L3 ++ L2) E3 kc2 ks2 18 (LV b h0 mm (n + 1)) []) : wq p l e room_1 s m #[Value.ref b] below meth c G (fun q => s.heap.size ≤ q) 4 (lw_Z below #[Value.ref b] s) (Lm ++ Lx) E kc ks 432 (LV b h0 mm n) [] := by
  refine q_aload_n (j := 2) C dL_law_432 rfl ?_
  refine q_ld (j := 1) C hX hbl hzs hn6 hLn (by decide) rfl dL_law_433 dL_law_434 dL_law_435 dL_law_436 dL_law_437 ?_
  refine q_ld (j := 2) C hX hbl hzs hn6 hLn (by decide) rfl dL_law_438 dL_law_439 dL_law_440 dL_law_441 dL_law_442 ?_
  refine q_ld (j := 3) C hX hbl hzs hn6 hLn (by decide) rfl dL_law_443 dL_law_444 dL_law_445 dL_law_446 dL_law_447 ?_
  refine law_press (As := [.int (iI (zs (6 * n + 1))), .int (iI (zs (6 * n + 2))), .int (iI (zs (6 * n + 3)))]) (rest := []) C hM hI (by omega) (by omega) hu (PO_condition (hz _) (hz _) (hz _)) dL_law_448 kV_L_41 rfl rfl rfl (Nat.le_of_ble_eq_true rfl) ⟨Nat.le_of_ble_eq_true rfl, Nat.le_of_ble_eq_true rfl⟩ (fun f1 L1 E1 kc1 ks1 u1 hf1 hI1 hu1 => ?_)
  refine q_pop C dL_law_451 rfl ?_
  refine q_aload_n (j := 1) C dL_law_452 rfl ?_
  refine q_ld (j := 1) C hX hbl hzs hn6 hLn (by decide) rfl dL_law_453 dL_law_454 dL_law_455 dL_law_456 dL_law_457 ?_
  refine q_ld (j := 2) C hX hbl hzs hn6 hLn (by decide) rfl dL_law_458 dL_law_459 dL_law_460 dL_law_461 dL_law_462 ?_
  refine q_ld (j := 3) C hX hbl hzs hn6 hLn (by decide) rfl dL_law_463 dL_law_464 dL_law_465 dL_law_466 dL_law_467 ?_
  refine law_model (As := [.int (iI (zs (6 * n + 1))), .int (iI (zs (6 * n + 2))), .int (iI (zs (6 * n + 3)))]) (rest := []) C hI1 (by omega) (by omega) hu1 (MO_condition (hz _) (hz _) (hz _)) (by decide) dL_law_468 kV_L_44 rfl rfl rfl (Nat.le_of_ble_eq_true rfl) ⟨Nat.le_of_ble_eq_true rfl, Nat.le_of_ble_eq_true rfl⟩ (fun f2 L2 E2 kc2 ks2 u2 hI2 hu2 => ?_)
  refine q_pop C dL_law_471 rfl ?_
  refine q_goto (tgt := 1377) C dL_law_472 (by decide) ?_
  exact law_tail C ((hI2.mono (fun sk iv rv v a ⟨v0, a0, ⟨iv0, rv0, hr, hp⟩, hq⟩ => rel_condition hr hp hq)).le (by omega)) hu2 ih
theorem law_indicator {p : Program} {l : Launch} {e : Env} {s : State} {m : MethodId} {below : List Frame} {meth : Method} {c : Code} {y : MethodName} {rt : Option FieldType} {G : GT} {b mi h0 mm n u kc ks Ln : Nat} {Lx Lm : List Nat} {E : Nat → va_E} {xs : Nat → Int32} {zs : Nat → Int} (C : Cq p s m #[Value.ref b] meth c cL_law ⟨RL, y.name, y.desc⟩ rt G (fun q => s.heap.size ≤ q) 4) (hM : Mir mi s) (hX : va_X b Ln xs s s.heap) (hbl : b < s.heap.size) (hzs : ∀ k, xs k = iI (zs k)) (hz : ∀ k, -2147483648 ≤ zs k ∧ zs k ≤ 2147483647) (hn6 : 6 * n + 6 ≤ Ln) (hLn : Ln ≤ 3072) (hI : LI (REL h0) G h0 mm n n (6500 * n) u Lx Lm E) (hu : 16 * kc + ks ≤ u) (ih : ∀ (L2 L3 : List Nat) (E3 : Nat → va_E) (kc2 ks2 u2 : Nat), LI (REL h0) G h0 mm (n + 1) (n + 1) (6500 * (n + 1)) u2 L2 L3 E3 → 16 * kc2 + ks2 ≤ u2 → wq p l e room_1 s m #[Value.ref b] below meth c G (fun q => s.heap.size ≤ q) 4 (lw_Z below #[Value.ref b] s) (L3 ++ L2) E3 kc2 ks2 18 (LV b h0 mm (n + 1)) []) : wq p l e room_1 s m #[Value.ref b] below meth c G (fun q => s.heap.size ≤ q) 4 (lw_Z below #[Value.ref b] s) (Lm ++ Lx) E kc ks 475 (LV b h0 mm n) [] := by
  refine q_aload_n (j := 2) C dL_law_475 rfl ?_
  refine q_ld (j := 1) C hX hbl hzs hn6 hLn (by decide) rfl dL_law_476 dL_law_477 dL_law_478 dL_law_479 dL_law_480 ?_
  refine q_ld (j := 2) C hX hbl hzs hn6 hLn (by decide) rfl dL_law_481 dL_law_482 dL_law_483 dL_law_484 dL_law_485 ?_
  refine law_press (As := [.int (iI (zs (6 * n + 1))), .int (iI (zs (6 * n + 2)))]) (rest := []) C hM hI (by omega) (by omega) hu (PO_indicator (hz _) (hz _)) dL_law_486 kV_L_45 rfl rfl rfl (Nat.le_of_ble_eq_true rfl) ⟨Nat.le_of_ble_eq_true rfl, Nat.le_of_ble_eq_true rfl⟩ (fun f1 L1 E1 kc1 ks1 u1 hf1 hI1 hu1 => ?_)
  refine q_pop C dL_law_489 rfl ?_
  refine q_aload_n (j := 1) C dL_law_490 rfl ?_
  refine q_ld (j := 1) C hX hbl hzs hn6 hLn (by decide) rfl dL_law_491 dL_law_492 dL_law_493 dL_law_494 dL_law_495 ?_
  refine q_ld (j := 2) C hX hbl hzs hn6 hLn (by decide) rfl dL_law_496 dL_law_497 dL_law_498 dL_law_499 dL_law_500 ?_
  refine law_model (As := [.int (iI (zs (6 * n + 1))), .int (iI (zs (6 * n + 2)))]) (rest := []) C hI1 (by omega) (by omega) hu1 (MO_indicator (hz _) (hz _)) (by decide) dL_law_501 kV_L_48 rfl rfl rfl (Nat.le_of_ble_eq_true rfl) ⟨Nat.le_of_ble_eq_true rfl, Nat.le_of_ble_eq_true rfl⟩ (fun f2 L2 E2 kc2 ks2 u2 hI2 hu2 => ?_)
  refine q_pop C dL_law_504 rfl ?_
  refine q_goto (tgt := 1377) C dL_law_505 (by decide) ?_
  exact law_tail C ((hI2.mono (fun sk iv rv v a ⟨v0, a0, ⟨iv0, rv0, hr, hp⟩, hq⟩ => rel_indicator hr hp hq)).le (by omega)) hu2 ih
theorem law_undo {p : Program} {l : Launch} {e : Env} {s : State} {m : MethodId} {below : List Frame} {meth : Method} {c : Code} {y : MethodName} {rt : Option FieldType} {G : GT} {b mi h0 mm n u kc ks Ln : Nat} {Lx Lm : List Nat} {E : Nat → va_E} {xs : Nat → Int32} {zs : Nat → Int} (C : Cq p s m #[Value.ref b] meth c cL_law ⟨RL, y.name, y.desc⟩ rt G (fun q => s.heap.size ≤ q) 4) (hM : Mir mi s) (hX : va_X b Ln xs s s.heap) (hbl : b < s.heap.size) (hzs : ∀ k, xs k = iI (zs k)) (hz : ∀ k, -2147483648 ≤ zs k ∧ zs k ≤ 2147483647) (hn6 : 6 * n + 6 ≤ Ln) (hLn : Ln ≤ 3072) (hI : LI (REL h0) G h0 mm n n (6500 * n) u Lx Lm E) (hu : 16 * kc + ks ≤ u) (ih : ∀ (L2 L3 : List Nat) (E3 : Nat → va_E) (kc2 ks2 u2 : Nat), LI (REL h0) G h0 mm (n + 1) (n + 1) (6500 * (n + 1)) u2 L2 L3 E3 → 16 * kc2 + ks2 ≤ u2 → wq p l e room_1 s m #[Value.ref b] below meth c G (fun q => s.heap.size ≤ q) 4 (lw_Z below #[Value.ref b] s) (L3 ++ L2) E3 kc2 ks2 18 (LV b h0 mm (n + 1)) []) : wq p l e room_1 s m #[Value.ref b] below meth c G (fun q => s.heap.size ≤ q) 4 (lw_Z below #[Value.ref b] s) (Lm ++ Lx) E kc ks 508 (LV b h0 mm n) [] := by
  refine q_aload_n (j := 2) C dL_law_508 rfl ?_
  refine law_press (As := []) (rest := []) C hM hI (by omega) (by omega) hu (PO_undo ) dL_law_509 kV_L_49 rfl rfl rfl (Nat.le_of_ble_eq_true rfl) ⟨Nat.le_of_ble_eq_true rfl, Nat.le_of_ble_eq_true rfl⟩ (fun f1 L1 E1 kc1 ks1 u1 hf1 hI1 hu1 => ?_)
  refine q_pop C dL_law_512 rfl ?_
  refine q_aload_n (j := 1) C dL_law_513 rfl ?_
  refine law_model (As := []) (rest := []) C hI1 (by omega) (by omega) hu1 (MO_undo ) (by decide) dL_law_514 kV_L_53 rfl rfl rfl (Nat.le_of_ble_eq_true rfl) ⟨Nat.le_of_ble_eq_true rfl, Nat.le_of_ble_eq_true rfl⟩ (fun f2 L2 E2 kc2 ks2 u2 hI2 hu2 => ?_)
  refine q_pop C dL_law_517 rfl ?_
  refine q_goto (tgt := 1377) C dL_law_518 (by decide) ?_
  exact law_tail C ((hI2.mono (fun sk iv rv v a ⟨v0, a0, ⟨iv0, rv0, hr, hp⟩, hq⟩ => rel_undo hr hp hq)).le (by omega)) hu2 ih
theorem law_text {p : Program} {l : Launch} {e : Env} {s : State} {m : MethodId} {below : List Frame} {meth : Method} {c : Code} {y : MethodName} {rt : Option FieldType} {G : GT} {b mi h0 mm n u kc ks Ln : Nat} {Lx Lm : List Nat} {E : Nat → va_E} {xs : Nat → Int32} {zs : Nat → Int} (C : Cq p s m #[Value.ref b] meth c cL_law ⟨RL, y.name, y.desc⟩ rt G (fun q => s.heap.size ≤ q) 4) (hM : Mir mi s) (hX : va_X b Ln xs s s.heap) (hbl : b < s.heap.size) (hzs : ∀ k, xs k = iI (zs k)) (hz : ∀ k, -2147483648 ≤ zs k ∧ zs k ≤ 2147483647) (hn6 : 6 * n + 6 ≤ Ln) (hLn : Ln ≤ 3072) (hI : LI (REL h0) G h0 mm n n (6500 * n) u Lx Lm E) (hu : 16 * kc + ks ≤ u) (ih : ∀ (L2 L3 : List Nat) (E3 : Nat → va_E) (kc2 ks2 u2 : Nat), LI (REL h0) G h0 mm (n + 1) (n + 1) (6500 * (n + 1)) u2 L2 L3 E3 → 16 * kc2 + ks2 ≤ u2 → wq p l e room_1 s m #[Value.ref b] below meth c G (fun q => s.heap.size ≤ q) 4 (lw_Z below #[Value.ref b] s) (L3 ++ L2) E3 kc2 ks2 18 (LV b h0 mm (n + 1)) []) : wq p l e room_1 s m #[Value.ref b] below meth c G (fun q => s.heap.size ≤ q) 4 (lw_Z below #[Value.ref b] s) (Lm ++ Lx) E kc ks 521 (LV b h0 mm n) [] := by
  refine q_aload_n (j := 2) C dL_law_521 rfl ?_
  refine law_press (As := []) (rest := []) C hM hI (by omega) (by omega) hu (PO_text ) dL_law_522 kV_L_54 rfl rfl rfl (Nat.le_of_ble_eq_true rfl) ⟨Nat.le_of_ble_eq_true rfl, Nat.le_of_ble_eq_true rfl⟩ (fun f1 L1 E1 kc1 ks1 u1 hf1 hI1 hu1 => ?_)
  refine q_aload_n (j := 1) C dL_law_525 rfl ?_
  refine law_model (As := []) (rest := [.int (iI f1)]) C hI1 (by omega) (by omega) hu1 (MO_text ) (by decide) dL_law_526 kV_L_57 rfl rfl rfl (Nat.le_of_ble_eq_true rfl) ⟨Nat.le_of_ble_eq_true rfl, Nat.le_of_ble_eq_true rfl⟩ (fun f2 L2 E2 kc2 ks2 u2 hI2 hu2 => ?_)
  have hq : iI f1 = iI f2 := hI2.get (fun sk iv rv v a ⟨v0, a0, ⟨iv0, rv0, hr, hp⟩, hq⟩ => eq_text hr hp hq)
  refine q_icmp_eq (tgt := 1377) C dL_law_529 (by decide) (fun _ => ?_) (fun q => absurd hq q)
  exact law_tail C ((hI2.mono (fun sk iv rv v a ⟨v0, a0, ⟨iv0, rv0, hr, hp⟩, hq⟩ => rel_text hr hp hq)).le (by omega)) hu2 ih
theorem law_measure {p : Program} {l : Launch} {e : Env} {s : State} {m : MethodId} {below : List Frame} {meth : Method} {c : Code} {y : MethodName} {rt : Option FieldType} {G : GT} {b mi h0 mm n u kc ks Ln : Nat} {Lx Lm : List Nat} {E : Nat → va_E} {xs : Nat → Int32} {zs : Nat → Int} (C : Cq p s m #[Value.ref b] meth c cL_law ⟨RL, y.name, y.desc⟩ rt G (fun q => s.heap.size ≤ q) 4) (hM : Mir mi s) (hX : va_X b Ln xs s s.heap) (hbl : b < s.heap.size) (hzs : ∀ k, xs k = iI (zs k)) (hz : ∀ k, -2147483648 ≤ zs k ∧ zs k ≤ 2147483647) (hn6 : 6 * n + 6 ≤ Ln) (hLn : Ln ≤ 3072) (hI : LI (REL h0) G h0 mm n n (6500 * n) u Lx Lm E) (hu : 16 * kc + ks ≤ u) (ih : ∀ (L2 L3 : List Nat) (E3 : Nat → va_E) (kc2 ks2 u2 : Nat), LI (REL h0) G h0 mm (n + 1) (n + 1) (6500 * (n + 1)) u2 L2 L3 E3 → 16 * kc2 + ks2 ≤ u2 → wq p l e room_1 s m #[Value.ref b] below meth c G (fun q => s.heap.size ≤ q) 4 (lw_Z below #[Value.ref b] s) (L3 ++ L2) E3 kc2 ks2 18 (LV b h0 mm (n + 1)) []) : wq p l e room_1 s m #[Value.ref b] below meth c G (fun q => s.heap.size ≤ q) 4 (lw_Z below #[Value.ref b] s) (Lm ++ Lx) E kc ks 534 (LV b h0 mm n) [] := by
  refine q_aload_n (j := 2) C dL_law_534 rfl ?_
  refine q_ld (j := 1) C hX hbl hzs hn6 hLn (by decide) rfl dL_law_535 dL_law_536 dL_law_537 dL_law_538 dL_law_539 ?_
  refine q_ld (j := 2) C hX hbl hzs hn6 hLn (by decide) rfl dL_law_540 dL_law_541 dL_law_542 dL_law_543 dL_law_544 ?_
  refine q_ld (j := 3) C hX hbl hzs hn6 hLn (by decide) rfl dL_law_545 dL_law_546 dL_law_547 dL_law_548 dL_law_549 ?_
  refine law_press (As := [.int (iI (zs (6 * n + 1))), .int (iI (zs (6 * n + 2))), .int (iI (zs (6 * n + 3)))]) (rest := []) C hM hI (by omega) (by omega) hu (PO_measure (hz _) (hz _) (hz _)) dL_law_550 kV_L_58 rfl rfl rfl (Nat.le_of_ble_eq_true rfl) ⟨Nat.le_of_ble_eq_true rfl, Nat.le_of_ble_eq_true rfl⟩ (fun f1 L1 E1 kc1 ks1 u1 hf1 hI1 hu1 => ?_)
  refine q_pop C dL_law_553 rfl ?_
  refine q_aload_n (j := 1) C dL_law_554 rfl ?_
  refine q_ld (j := 1) C hX hbl hzs hn6 hLn (by decide) rfl dL_law_555 dL_law_556 dL_law_557 dL_law_558 dL_law_559 ?_
  refine q_ld (j := 2) C hX hbl hzs hn6 hLn (by decide) rfl dL_law_560 dL_law_561 dL_law_562 dL_law_563 dL_law_564 ?_
  refine q_ld (j := 3) C hX hbl hzs hn6 hLn (by decide) rfl dL_law_565 dL_law_566 dL_law_567 dL_law_568 dL_law_569 ?_
  refine law_model (As := [.int (iI (zs (6 * n + 1))), .int (iI (zs (6 * n + 2))), .int (iI (zs (6 * n + 3)))]) (rest := []) C hI1 (by omega) (by omega) hu1 (MO_measure (hz _) (hz _) (hz _)) (by decide) dL_law_570 kV_L_61 rfl rfl rfl (Nat.le_of_ble_eq_true rfl) ⟨Nat.le_of_ble_eq_true rfl, Nat.le_of_ble_eq_true rfl⟩ (fun f2 L2 E2 kc2 ks2 u2 hI2 hu2 => ?_)
  refine q_pop C dL_law_573 rfl ?_
  refine q_goto (tgt := 1377) C dL_law_574 (by decide) ?_
  exact law_tail C ((hI2.mono (fun sk iv rv v a ⟨v0, a0, ⟨iv0, rv0, hr, hp⟩, hq⟩ => rel_keep hr hp hq)).le (by omega)) hu2 ih
theorem law_set {p : Program} {l : Launch} {e : Env} {s : State} {m : MethodId} {below : List Frame} {meth : Method} {c : Code} {y : MethodName} {rt : Option FieldType} {G : GT} {b mi h0 mm n u kc ks Ln : Nat} {Lx Lm : List Nat} {E : Nat → va_E} {xs : Nat → Int32} {zs : Nat → Int} (C : Cq p s m #[Value.ref b] meth c cL_law ⟨RL, y.name, y.desc⟩ rt G (fun q => s.heap.size ≤ q) 4) (hM : Mir mi s) (hX : va_X b Ln xs s s.heap) (hbl : b < s.heap.size) (hzs : ∀ k, xs k = iI (zs k)) (hz : ∀ k, -2147483648 ≤ zs k ∧ zs k ≤ 2147483647) (hn6 : 6 * n + 6 ≤ Ln) (hLn : Ln ≤ 3072) (hI : LI (REL h0) G h0 mm n n (6500 * n) u Lx Lm E) (hu : 16 * kc + ks ≤ u) (ih : ∀ (L2 L3 : List Nat) (E3 : Nat → va_E) (kc2 ks2 u2 : Nat), LI (REL h0) G h0 mm (n + 1) (n + 1) (6500 * (n + 1)) u2 L2 L3 E3 → 16 * kc2 + ks2 ≤ u2 → wq p l e room_1 s m #[Value.ref b] below meth c G (fun q => s.heap.size ≤ q) 4 (lw_Z below #[Value.ref b] s) (L3 ++ L2) E3 kc2 ks2 18 (LV b h0 mm (n + 1)) []) : wq p l e room_1 s m #[Value.ref b] below meth c G (fun q => s.heap.size ≤ q) 4 (lw_Z below #[Value.ref b] s) (Lm ++ Lx) E kc ks 577 (LV b h0 mm n) [] := by
  refine q_aload_n (j := 2) C dL_law_577 rfl ?_
  refine q_ld (j := 1) C hX hbl hzs hn6 hLn (by decide) rfl dL_law_578 dL_law_579 dL_law_580 dL_law_581 dL_law_582 ?_
  refine law_press (As := [.int (iI (zs (6 * n + 1)))]) (rest := []) C hM hI (by omega) (by omega) hu (PO_set (hz _)) dL_law_583 kV_L_62 rfl rfl rfl (Nat.le_of_ble_eq_true rfl) ⟨Nat.le_of_ble_eq_true rfl, Nat.le_of_ble_eq_true rfl⟩ (fun f1 L1 E1 kc1 ks1 u1 hf1 hI1 hu1 => ?_)
  refine q_pop C dL_law_586 rfl ?_
  refine q_aload_n (j := 1) C dL_law_587 rfl ?_
  refine q_ld (j := 1) C hX hbl hzs hn6 hLn (by decide) rfl dL_law_588 dL_law_589 dL_law_590 dL_law_591 dL_law_592 ?_
  refine law_model (As := [.int (iI (zs (6 * n + 1)))]) (rest := []) C hI1 (by omega) (by omega) hu1 (MO_set (hz _)) (by decide) dL_law_593 kV_L_65 rfl rfl rfl (Nat.le_of_ble_eq_true rfl) ⟨Nat.le_of_ble_eq_true rfl, Nat.le_of_ble_eq_true rfl⟩ (fun f2 L2 E2 kc2 ks2 u2 hI2 hu2 => ?_)
  refine q_pop C dL_law_596 rfl ?_
  refine q_goto (tgt := 1377) C dL_law_597 (by decide) ?_
  exact law_tail C ((hI2.mono (fun sk iv rv v a ⟨v0, a0, ⟨iv0, rv0, hr, hp⟩, hq⟩ => rel_keep hr hp hq)).le (by omega)) hu2 ih
theorem law_head {p : Program} {l : Launch} {e : Env} {s : State} {m : MethodId} {below : List Frame} {meth : Method} {c : Code} {y : MethodName} {rt : Option FieldType} {G : GT} {b mi h0 mm n u kc ks Ln : Nat} {Lx Lm : List Nat} {E : Nat → va_E} {xs : Nat → Int32} {zs : Nat → Int} (C : Cq p s m #[Value.ref b] meth c cL_law ⟨RL, y.name, y.desc⟩ rt G (fun q => s.heap.size ≤ q) 4) (hM : Mir mi s) (hX : va_X b Ln xs s s.heap) (hbl : b < s.heap.size) (hzs : ∀ k, xs k = iI (zs k)) (hz : ∀ k, -2147483648 ≤ zs k ∧ zs k ≤ 2147483647) (hn6 : 6 * n + 6 ≤ Ln) (hLn : Ln ≤ 3072) (hI : LI (REL h0) G h0 mm n n (6500 * n) u Lx Lm E) (hu : 16 * kc + ks ≤ u) (ih : ∀ (L2 L3 : List Nat) (E3 : Nat → va_E) (kc2 ks2 u2 : Nat), LI (REL h0) G h0 mm (n + 1) (n + 1) (6500 * (n + 1)) u2 L2 L3 E3 → 16 * kc2 + ks2 ≤ u2 → wq p l e room_1 s m #[Value.ref b] below meth c G (fun q => s.heap.size ≤ q) 4 (lw_Z below #[Value.ref b] s) (L3 ++ L2) E3 kc2 ks2 18 (LV b h0 mm (n + 1)) []) : wq p l e room_1 s m #[Value.ref b] below meth c G (fun q => s.heap.size ≤ q) 4 (lw_Z below #[Value.ref b] s) (Lm ++ Lx) E kc ks 600 (LV b h0 mm n) [] := by
  refine q_aload_n (j := 2) C dL_law_600 rfl ?_
  refine q_ld (j := 1) C hX hbl hzs hn6 hLn (by decide) rfl dL_law_601 dL_law_602 dL_law_603 dL_law_604 dL_law_605 ?_
  refine law_press (As := [.int (iI (zs (6 * n + 1)))]) (rest := []) C hM hI (by omega) (by omega) hu (PO_head (hz _)) dL_law_606 kV_L_66 rfl rfl rfl (Nat.le_of_ble_eq_true rfl) ⟨Nat.le_of_ble_eq_true rfl, Nat.le_of_ble_eq_true rfl⟩ (fun f1 L1 E1 kc1 ks1 u1 hf1 hI1 hu1 => ?_)
  refine q_pop C dL_law_609 rfl ?_
  refine q_aload_n (j := 1) C dL_law_610 rfl ?_
  refine q_ld (j := 1) C hX hbl hzs hn6 hLn (by decide) rfl dL_law_611 dL_law_612 dL_law_613 dL_law_614 dL_law_615 ?_
  refine law_model (As := [.int (iI (zs (6 * n + 1)))]) (rest := []) C hI1 (by omega) (by omega) hu1 (MO_head (hz _)) (by decide) dL_law_616 kV_L_69 rfl rfl rfl (Nat.le_of_ble_eq_true rfl) ⟨Nat.le_of_ble_eq_true rfl, Nat.le_of_ble_eq_true rfl⟩ (fun f2 L2 E2 kc2 ks2 u2 hI2 hu2 => ?_)
  refine q_pop C dL_law_619 rfl ?_
  refine q_goto (tgt := 1377) C dL_law_620 (by decide) ?_
  exact law_tail C ((hI2.mono (fun sk iv rv v a ⟨v0, a0, ⟨iv0, rv0, hr, hp⟩, hq⟩ => rel_zero hr hp hq)).le (by omega)) hu2 ih
theorem law_lines {p : Program} {l : Launch} {e : Env} {s : State} {m : MethodId} {below : List Frame} {meth : Method} {c : Code} {y : MethodName} {rt : Option FieldType} {G : GT} {b mi h0 mm n u kc ks Ln : Nat} {Lx Lm : List Nat} {E : Nat → va_E} {xs : Nat → Int32} {zs : Nat → Int} (C : Cq p s m #[Value.ref b] meth c cL_law ⟨RL, y.name, y.desc⟩ rt G (fun q => s.heap.size ≤ q) 4) (hM : Mir mi s) (hX : va_X b Ln xs s s.heap) (hbl : b < s.heap.size) (hzs : ∀ k, xs k = iI (zs k)) (hz : ∀ k, -2147483648 ≤ zs k ∧ zs k ≤ 2147483647) (hn6 : 6 * n + 6 ≤ Ln) (hLn : Ln ≤ 3072) (hI : LI (REL h0) G h0 mm n n (6500 * n) u Lx Lm E) (hu : 16 * kc + ks ≤ u) (ih : ∀ (L2 L3 : List Nat) (E3 : Nat → va_E) (kc2 ks2 u2 : Nat), LI (REL h0) G h0 mm (n + 1) (n + 1) (6500 * (n + 1)) u2 L2 L3 E3 → 16 * kc2 + ks2 ≤ u2 → wq p l e room_1 s m #[Value.ref b] below meth c G (fun q => s.heap.size ≤ q) 4 (lw_Z below #[Value.ref b] s) (L3 ++ L2) E3 kc2 ks2 18 (LV b h0 mm (n + 1)) []) : wq p l e room_1 s m #[Value.ref b] below meth c G (fun q => s.heap.size ≤ q) 4 (lw_Z below #[Value.ref b] s) (Lm ++ Lx) E kc ks 623 (LV b h0 mm n) [] := by
  refine q_aload_n (j := 2) C dL_law_623 rfl ?_
  refine law_press (As := []) (rest := []) C hM hI (by omega) (by omega) hu (PO_lines ) dL_law_624 kV_L_70 rfl rfl rfl (Nat.le_of_ble_eq_true rfl) ⟨Nat.le_of_ble_eq_true rfl, Nat.le_of_ble_eq_true rfl⟩ (fun f1 L1 E1 kc1 ks1 u1 hf1 hI1 hu1 => ?_)
  refine q_pop C dL_law_627 rfl ?_
  refine q_aload_n (j := 1) C dL_law_628 rfl ?_
  refine law_model (As := []) (rest := []) C hI1 (by omega) (by omega) hu1 (MO_lines ) (by decide) dL_law_629 kV_L_73 rfl rfl rfl (Nat.le_of_ble_eq_true rfl) ⟨Nat.le_of_ble_eq_true rfl, Nat.le_of_ble_eq_true rfl⟩ (fun f2 L2 E2 kc2 ks2 u2 hI2 hu2 => ?_)
  refine q_pop C dL_law_632 rfl ?_
  refine q_goto (tgt := 1377) C dL_law_633 (by decide) ?_
  exact law_tail C ((hI2.mono (fun sk iv rv v a ⟨v0, a0, ⟨iv0, rv0, hr, hp⟩, hq⟩ => rel_keep hr hp hq)).le (by omega)) hu2 ih
theorem law_pages {p : Program} {l : Launch} {e : Env} {s : State} {m : MethodId} {below : List Frame} {meth : Method} {c : Code} {y : MethodName} {rt : Option FieldType} {G : GT} {b mi h0 mm n u kc ks Ln : Nat} {Lx Lm : List Nat} {E : Nat → va_E} {xs : Nat → Int32} {zs : Nat → Int} (C : Cq p s m #[Value.ref b] meth c cL_law ⟨RL, y.name, y.desc⟩ rt G (fun q => s.heap.size ≤ q) 4) (hM : Mir mi s) (hX : va_X b Ln xs s s.heap) (hbl : b < s.heap.size) (hzs : ∀ k, xs k = iI (zs k)) (hz : ∀ k, -2147483648 ≤ zs k ∧ zs k ≤ 2147483647) (hn6 : 6 * n + 6 ≤ Ln) (hLn : Ln ≤ 3072) (hI : LI (REL h0) G h0 mm n n (6500 * n) u Lx Lm E) (hu : 16 * kc + ks ≤ u) (ih : ∀ (L2 L3 : List Nat) (E3 : Nat → va_E) (kc2 ks2 u2 : Nat), LI (REL h0) G h0 mm (n + 1) (n + 1) (6500 * (n + 1)) u2 L2 L3 E3 → 16 * kc2 + ks2 ≤ u2 → wq p l e room_1 s m #[Value.ref b] below meth c G (fun q => s.heap.size ≤ q) 4 (lw_Z below #[Value.ref b] s) (L3 ++ L2) E3 kc2 ks2 18 (LV b h0 mm (n + 1)) []) : wq p l e room_1 s m #[Value.ref b] below meth c G (fun q => s.heap.size ≤ q) 4 (lw_Z below #[Value.ref b] s) (Lm ++ Lx) E kc ks 636 (LV b h0 mm n) [] := by
  refine q_aload_n (j := 2) C dL_law_636 rfl ?_
  refine law_press (As := []) (rest := []) C hM hI (by omega) (by omega) hu (PO_pages ) dL_law_637 kV_L_74 rfl rfl rfl (Nat.le_of_ble_eq_true rfl) ⟨Nat.le_of_ble_eq_true rfl, Nat.le_of_ble_eq_true rfl⟩ (fun f1 L1 E1 kc1 ks1 u1 hf1 hI1 hu1 => ?_)
  refine q_pop C dL_law_640 rfl ?_
  refine q_aload_n (j := 1) C dL_law_641 rfl ?_
  refine law_model (As := []) (rest := []) C hI1 (by omega) (by omega) hu1 (MO_pages ) (by decide) dL_law_642 kV_L_77 rfl rfl rfl (Nat.le_of_ble_eq_true rfl) ⟨Nat.le_of_ble_eq_true rfl, Nat.le_of_ble_eq_true rfl⟩ (fun f2 L2 E2 kc2 ks2 u2 hI2 hu2 => ?_)
  refine q_pop C dL_law_645 rfl ?_
  refine q_goto (tgt := 1377) C dL_law_646 (by decide) ?_
  exact law_tail C ((hI2.mono (fun sk iv rv v a ⟨v0, a0, ⟨iv0, rv0, hr, hp⟩, hq⟩ => rel_keep hr hp hq)).le (by omega)) hu2 ih
theorem law_length {p : Program} {l : Launch} {e : Env} {s : State} {m : MethodId} {below : List Frame} {meth : Method} {c : Code} {y : MethodName} {rt : Option FieldType} {G : GT} {b mi h0 mm n u kc ks Ln : Nat} {Lx Lm : List Nat} {E : Nat → va_E} {xs : Nat → Int32} {zs : Nat → Int} (C : Cq p s m #[Value.ref b] meth c cL_law ⟨RL, y.name, y.desc⟩ rt G (fun q => s.heap.size ≤ q) 4) (hM : Mir mi s) (hX : va_X b Ln xs s s.heap) (hbl : b < s.heap.size) (hzs : ∀ k, xs k = iI (zs k)) (hz : ∀ k, -2147483648 ≤ zs k ∧ zs k ≤ 2147483647) (hn6 : 6 * n + 6 ≤ Ln) (hLn : Ln ≤ 3072) (hI : LI (REL h0) G h0 mm n n (6500 * n) u Lx Lm E) (hu : 16 * kc + ks ≤ u) (ih : ∀ (L2 L3 : List Nat) (E3 : Nat → va_E) (kc2 ks2 u2 : Nat), LI (REL h0) G h0 mm (n + 1) (n + 1) (6500 * (n + 1)) u2 L2 L3 E3 → 16 * kc2 + ks2 ≤ u2 → wq p l e room_1 s m #[Value.ref b] below meth c G (fun q => s.heap.size ≤ q) 4 (lw_Z below #[Value.ref b] s) (L3 ++ L2) E3 kc2 ks2 18 (LV b h0 mm (n + 1)) []) : wq p l e room_1 s m #[Value.ref b] below meth c G (fun q => s.heap.size ≤ q) 4 (lw_Z below #[Value.ref b] s) (Lm ++ Lx) E kc ks 649 (LV b h0 mm n) [] := by
  refine q_aload_n (j := 2) C dL_law_649 rfl ?_
  refine q_ld (j := 1) C hX hbl hzs hn6 hLn (by decide) rfl dL_law_650 dL_law_651 dL_law_652 dL_law_653 dL_law_654 ?_
  refine law_press (As := [.int (iI (zs (6 * n + 1)))]) (rest := []) C hM hI (by omega) (by omega) hu (PO_length (hz _)) dL_law_655 kV_L_78 rfl rfl rfl (Nat.le_of_ble_eq_true rfl) ⟨Nat.le_of_ble_eq_true rfl, Nat.le_of_ble_eq_true rfl⟩ (fun f1 L1 E1 kc1 ks1 u1 hf1 hI1 hu1 => ?_)
  refine q_pop C dL_law_658 rfl ?_
  refine q_aload_n (j := 1) C dL_law_659 rfl ?_
  refine q_ld (j := 1) C hX hbl hzs hn6 hLn (by decide) rfl dL_law_660 dL_law_661 dL_law_662 dL_law_663 dL_law_664 ?_
  refine law_model (As := [.int (iI (zs (6 * n + 1)))]) (rest := []) C hI1 (by omega) (by omega) hu1 (MO_length (hz _)) (by decide) dL_law_665 kV_L_81 rfl rfl rfl (Nat.le_of_ble_eq_true rfl) ⟨Nat.le_of_ble_eq_true rfl, Nat.le_of_ble_eq_true rfl⟩ (fun f2 L2 E2 kc2 ks2 u2 hI2 hu2 => ?_)
  refine q_pop C dL_law_668 rfl ?_
  refine q_goto (tgt := 1377) C dL_law_669 (by decide) ?_
  exact law_tail C ((hI2.mono (fun sk iv rv v a ⟨v0, a0, ⟨iv0, rv0, hr, hp⟩, hq⟩ => rel_keep hr hp hq)).le (by omega)) hu2 ih
theorem law_cell {p : Program} {l : Launch} {e : Env} {s : State} {m : MethodId} {below : List Frame} {meth : Method} {c : Code} {y : MethodName} {rt : Option FieldType} {G : GT} {b mi h0 mm n u kc ks Ln : Nat} {Lx Lm : List Nat} {E : Nat → va_E} {xs : Nat → Int32} {zs : Nat → Int} (C : Cq p s m #[Value.ref b] meth c cL_law ⟨RL, y.name, y.desc⟩ rt G (fun q => s.heap.size ≤ q) 4) (hM : Mir mi s) (hX : va_X b Ln xs s s.heap) (hbl : b < s.heap.size) (hzs : ∀ k, xs k = iI (zs k)) (hz : ∀ k, -2147483648 ≤ zs k ∧ zs k ≤ 2147483647) (hn6 : 6 * n + 6 ≤ Ln) (hLn : Ln ≤ 3072) (hI : LI (REL h0) G h0 mm n n (6500 * n) u Lx Lm E) (hu : 16 * kc + ks ≤ u) (ih : ∀ (L2 L3 : List Nat) (E3 : Nat → va_E) (kc2 ks2 u2 : Nat), LI (REL h0) G h0 mm (n + 1) (n + 1) (6500 * (n + 1)) u2 L2 L3 E3 → 16 * kc2 + ks2 ≤ u2 → wq p l e room_1 s m #[Value.ref b] below meth c G (fun q => s.heap.size ≤ q) 4 (lw_Z below #[Value.ref b] s) (L3 ++ L2) E3 kc2 ks2 18 (LV b h0 mm (n + 1)) []) : wq p l e room_1 s m #[Value.ref b] below meth c G (fun q => s.heap.size ≤ q) 4 (lw_Z below #[Value.ref b] s) (Lm ++ Lx) E kc ks 672 (LV b h0 mm n) [] := by
  refine q_aload_n (j := 2) C dL_law_672 rfl ?_
  refine q_ld (j := 1) C hX hbl hzs hn6 hLn (by decide) rfl dL_law_673 dL_law_674 dL_law_675 dL_law_676 dL_law_677 ?_
  refine q_ld (j := 2) C hX hbl hzs hn6 hLn (by decide) rfl dL_law_678 dL_law_679 dL_law_680 dL_law_681 dL_law_682 ?_
  refine law_press (As := [.int (iI (zs (6 * n + 1))), .int (iI (zs (6 * n + 2)))]) (rest := []) C hM hI (by omega) (by omega) hu (PO_cell (hz _) (hz _)) dL_law_683 kV_L_82 rfl rfl rfl (Nat.le_of_ble_eq_true rfl) ⟨Nat.le_of_ble_eq_true rfl, Nat.le_of_ble_eq_true rfl⟩ (fun f1 L1 E1 kc1 ks1 u1 hf1 hI1 hu1 => ?_)
  refine q_pop C dL_law_686 rfl ?_
  refine q_aload_n (j := 1) C dL_law_687 rfl ?_
  refine q_ld (j := 1) C hX hbl hzs hn6 hLn (by decide) rfl dL_law_688 dL_law_689 dL_law_690 dL_law_691 dL_law_692 ?_
  refine q_ld (j := 2) C hX hbl hzs hn6 hLn (by decide) rfl dL_law_693 dL_law_694 dL_law_695 dL_law_696 dL_law_697 ?_
  refine law_model (As := [.int (iI (zs (6 * n + 1))), .int (iI (zs (6 * n + 2)))]) (rest := []) C hI1 (by omega) (by omega) hu1 (MO_cell (hz _) (hz _)) (by decide) dL_law_698 kV_L_85 rfl rfl rfl (Nat.le_of_ble_eq_true rfl) ⟨Nat.le_of_ble_eq_true rfl, Nat.le_of_ble_eq_true rfl⟩ (fun f2 L2 E2 kc2 ks2 u2 hI2 hu2 => ?_)
  refine q_pop C dL_law_701 rfl ?_
  refine q_goto (tgt := 1377) C dL_law_702 (by decide) ?_
  exact law_tail C ((hI2.mono (fun sk iv rv v a ⟨v0, a0, ⟨iv0, rv0, hr, hp⟩, hq⟩ => rel_keep hr hp hq)).le (by omega)) hu2 ih
theorem law_page {p : Program} {l : Launch} {e : Env} {s : State} {m : MethodId} {below : List Frame} {meth : Method} {c : Code} {y : MethodName} {rt : Option FieldType} {G : GT} {b mi h0 mm n u kc ks Ln : Nat} {Lx Lm : List Nat} {E : Nat → va_E} {xs : Nat → Int32} {zs : Nat → Int} (C : Cq p s m #[Value.ref b] meth c cL_law ⟨RL, y.name, y.desc⟩ rt G (fun q => s.heap.size ≤ q) 4) (hM : Mir mi s) (hX : va_X b Ln xs s s.heap) (hbl : b < s.heap.size) (hzs : ∀ k, xs k = iI (zs k)) (hz : ∀ k, -2147483648 ≤ zs k ∧ zs k ≤ 2147483647) (hn6 : 6 * n + 6 ≤ Ln) (hLn : Ln ≤ 3072) (hI : LI (REL h0) G h0 mm n n (6500 * n) u Lx Lm E) (hu : 16 * kc + ks ≤ u) (ih : ∀ (L2 L3 : List Nat) (E3 : Nat → va_E) (kc2 ks2 u2 : Nat), LI (REL h0) G h0 mm (n + 1) (n + 1) (6500 * (n + 1)) u2 L2 L3 E3 → 16 * kc2 + ks2 ≤ u2 → wq p l e room_1 s m #[Value.ref b] below meth c G (fun q => s.heap.size ≤ q) 4 (lw_Z below #[Value.ref b] s) (L3 ++ L2) E3 kc2 ks2 18 (LV b h0 mm (n + 1)) []) : wq p l e room_1 s m #[Value.ref b] below meth c G (fun q => s.heap.size ≤ q) 4 (lw_Z below #[Value.ref b] s) (Lm ++ Lx) E kc ks 705 (LV b h0 mm n) [] := by
  refine q_aload_n (j := 2) C dL_law_705 rfl ?_
  refine q_ld (j := 1) C hX hbl hzs hn6 hLn (by decide) rfl dL_law_706 dL_law_707 dL_law_708 dL_law_709 dL_law_710 ?_
  refine q_ld (j := 2) C hX hbl hzs hn6 hLn (by decide) rfl dL_law_711 dL_law_712 dL_law_713 dL_law_714 dL_law_715 ?_
  refine q_ld (j := 3) C hX hbl hzs hn6 hLn (by decide) rfl dL_law_716 dL_law_717 dL_law_718 dL_law_719 dL_law_720 ?_
  refine law_press (As := [.int (iI (zs (6 * n + 1))), .int (iI (zs (6 * n + 2))), .int (iI (zs (6 * n + 3)))]) (rest := []) C hM hI (by omega) (by omega) hu (PO_page (hz _) (hz _) (hz _)) dL_law_721 kV_L_86 rfl rfl rfl (Nat.le_of_ble_eq_true rfl) ⟨Nat.le_of_ble_eq_true rfl, Nat.le_of_ble_eq_true rfl⟩ (fun f1 L1 E1 kc1 ks1 u1 hf1 hI1 hu1 => ?_)
  refine q_pop C dL_law_724 rfl ?_
  refine q_aload_n (j := 1) C dL_law_725 rfl ?_
  refine q_ld (j := 1) C hX hbl hzs hn6 hLn (by decide) rfl dL_law_726 dL_law_727 dL_law_728 dL_law_729 dL_law_730 ?_
  refine q_ld (j := 2) C hX hbl hzs hn6 hLn (by decide) rfl dL_law_731 dL_law_732 dL_law_733 dL_law_734 dL_law_735 ?_
  refine q_ld (j := 3) C hX hbl hzs hn6 hLn (by decide) rfl dL_law_736 dL_law_737 dL_law_738 dL_law_739 dL_law_740 ?_
  refine law_model (As := [.int (iI (zs (6 * n + 1))), .int (iI (zs (6 * n + 2))), .int (iI (zs (6 * n + 3)))]) (rest := []) C hI1 (by omega) (by omega) hu1 (MO_page (hz _) (hz _) (hz _)) (by decide) dL_law_741 kV_L_89 rfl rfl rfl (Nat.le_of_ble_eq_true rfl) ⟨Nat.le_of_ble_eq_true rfl, Nat.le_of_ble_eq_true rfl⟩ (fun f2 L2 E2 kc2 ks2 u2 hI2 hu2 => ?_)
  refine q_pop C dL_law_744 rfl ?_
  refine q_goto (tgt := 1377) C dL_law_745 (by decide) ?_
  exact law_tail C ((hI2.mono (fun sk iv rv v a ⟨v0, a0, ⟨iv0, rv0, hr, hp⟩, hq⟩ => rel_keep hr hp hq)).le (by omega)) hu2 ih
theorem law_cut {p : Program} {l : Launch} {e : Env} {s : State} {m : MethodId} {below : List Frame} {meth : Method} {c : Code} {y : MethodName} {rt : Option FieldType} {G : GT} {b mi h0 mm n u kc ks Ln : Nat} {Lx Lm : List Nat} {E : Nat → va_E} {xs : Nat → Int32} {zs : Nat → Int} (C : Cq p s m #[Value.ref b] meth c cL_law ⟨RL, y.name, y.desc⟩ rt G (fun q => s.heap.size ≤ q) 4) (hM : Mir mi s) (hX : va_X b Ln xs s s.heap) (hbl : b < s.heap.size) (hzs : ∀ k, xs k = iI (zs k)) (hz : ∀ k, -2147483648 ≤ zs k ∧ zs k ≤ 2147483647) (hn6 : 6 * n + 6 ≤ Ln) (hLn : Ln ≤ 3072) (hI : LI (REL h0) G h0 mm n n (6500 * n) u Lx Lm E) (hu : 16 * kc + ks ≤ u) (ih : ∀ (L2 L3 : List Nat) (E3 : Nat → va_E) (kc2 ks2 u2 : Nat), LI (REL h0) G h0 mm (n + 1) (n + 1) (6500 * (n + 1)) u2 L2 L3 E3 → 16 * kc2 + ks2 ≤ u2 → wq p l e room_1 s m #[Value.ref b] below meth c G (fun q => s.heap.size ≤ q) 4 (lw_Z below #[Value.ref b] s) (L3 ++ L2) E3 kc2 ks2 18 (LV b h0 mm (n + 1)) []) : wq p l e room_1 s m #[Value.ref b] below meth c G (fun q => s.heap.size ≤ q) 4 (lw_Z below #[Value.ref b] s) (Lm ++ Lx) E kc ks 748 (LV b h0 mm n) [] := by
  refine q_aload_n (j := 2) C dL_law_748 rfl ?_
  refine q_ld (j := 1) C hX hbl hzs hn6 hLn (by decide) rfl dL_law_749 dL_law_750 dL_law_751 dL_law_752 dL_law_753 ?_
  refine q_ld (j := 2) C hX hbl hzs hn6 hLn (by decide) rfl dL_law_754 dL_law_755 dL_law_756 dL_law_757 dL_law_758 ?_
  refine law_press (As := [.int (iI (zs (6 * n + 1))), .int (iI (zs (6 * n + 2)))]) (rest := []) C hM hI (by omega) (by omega) hu (PO_cut (hz _) (hz _)) dL_law_759 kV_L_90 rfl rfl rfl (Nat.le_of_ble_eq_true rfl) ⟨Nat.le_of_ble_eq_true rfl, Nat.le_of_ble_eq_true rfl⟩ (fun f1 L1 E1 kc1 ks1 u1 hf1 hI1 hu1 => ?_)
  refine q_pop C dL_law_762 rfl ?_
  refine q_aload_n (j := 1) C dL_law_763 rfl ?_
  refine q_ld (j := 1) C hX hbl hzs hn6 hLn (by decide) rfl dL_law_764 dL_law_765 dL_law_766 dL_law_767 dL_law_768 ?_
  refine q_ld (j := 2) C hX hbl hzs hn6 hLn (by decide) rfl dL_law_769 dL_law_770 dL_law_771 dL_law_772 dL_law_773 ?_
  refine law_model (As := [.int (iI (zs (6 * n + 1))), .int (iI (zs (6 * n + 2)))]) (rest := []) C hI1 (by omega) (by omega) hu1 (MO_cut (hz _) (hz _)) (by decide) dL_law_774 kV_L_93 rfl rfl rfl (Nat.le_of_ble_eq_true rfl) ⟨Nat.le_of_ble_eq_true rfl, Nat.le_of_ble_eq_true rfl⟩ (fun f2 L2 E2 kc2 ks2 u2 hI2 hu2 => ?_)
  refine q_pop C dL_law_777 rfl ?_
  refine q_goto (tgt := 1377) C dL_law_778 (by decide) ?_
  exact law_tail C ((hI2.mono (fun sk iv rv v a ⟨v0, a0, ⟨iv0, rv0, hr, hp⟩, hq⟩ => rel_keep hr hp hq)).le (by omega)) hu2 ih
theorem law_lose {p : Program} {l : Launch} {e : Env} {s : State} {m : MethodId} {below : List Frame} {meth : Method} {c : Code} {y : MethodName} {rt : Option FieldType} {G : GT} {b mi h0 mm n u kc ks Ln : Nat} {Lx Lm : List Nat} {E : Nat → va_E} {xs : Nat → Int32} {zs : Nat → Int} (C : Cq p s m #[Value.ref b] meth c cL_law ⟨RL, y.name, y.desc⟩ rt G (fun q => s.heap.size ≤ q) 4) (hM : Mir mi s) (hX : va_X b Ln xs s s.heap) (hbl : b < s.heap.size) (hzs : ∀ k, xs k = iI (zs k)) (hz : ∀ k, -2147483648 ≤ zs k ∧ zs k ≤ 2147483647) (hn6 : 6 * n + 6 ≤ Ln) (hLn : Ln ≤ 3072) (hI : LI (REL h0) G h0 mm n n (6500 * n) u Lx Lm E) (hu : 16 * kc + ks ≤ u) (ih : ∀ (L2 L3 : List Nat) (E3 : Nat → va_E) (kc2 ks2 u2 : Nat), LI (REL h0) G h0 mm (n + 1) (n + 1) (6500 * (n + 1)) u2 L2 L3 E3 → 16 * kc2 + ks2 ≤ u2 → wq p l e room_1 s m #[Value.ref b] below meth c G (fun q => s.heap.size ≤ q) 4 (lw_Z below #[Value.ref b] s) (L3 ++ L2) E3 kc2 ks2 18 (LV b h0 mm (n + 1)) []) : wq p l e room_1 s m #[Value.ref b] below meth c G (fun q => s.heap.size ≤ q) 4 (lw_Z below #[Value.ref b] s) (Lm ++ Lx) E kc ks 781 (LV b h0 mm n) [] := by
  refine q_aload_n (j := 2) C dL_law_781 rfl ?_
  refine q_ld (j := 1) C hX hbl hzs hn6 hLn (by decide) rfl dL_law_782 dL_law_783 dL_law_784 dL_law_785 dL_law_786 ?_
  refine law_press (As := [.int (iI (zs (6 * n + 1)))]) (rest := []) C hM hI (by omega) (by omega) hu (PO_lose (hz _)) dL_law_787 kV_L_94 rfl rfl rfl (Nat.le_of_ble_eq_true rfl) ⟨Nat.le_of_ble_eq_true rfl, Nat.le_of_ble_eq_true rfl⟩ (fun f1 L1 E1 kc1 ks1 u1 hf1 hI1 hu1 => ?_)
  refine q_pop C dL_law_790 rfl ?_
  refine q_aload_n (j := 1) C dL_law_791 rfl ?_
  refine q_ld (j := 1) C hX hbl hzs hn6 hLn (by decide) rfl dL_law_792 dL_law_793 dL_law_794 dL_law_795 dL_law_796 ?_
  refine law_model (As := [.int (iI (zs (6 * n + 1)))]) (rest := []) C hI1 (by omega) (by omega) hu1 (MO_lose (hz _)) (by decide) dL_law_797 kV_L_97 rfl rfl rfl (Nat.le_of_ble_eq_true rfl) ⟨Nat.le_of_ble_eq_true rfl, Nat.le_of_ble_eq_true rfl⟩ (fun f2 L2 E2 kc2 ks2 u2 hI2 hu2 => ?_)
  refine q_pop C dL_law_800 rfl ?_
  refine q_goto (tgt := 1377) C dL_law_801 (by decide) ?_
  exact law_tail C ((hI2.mono (fun sk iv rv v a ⟨v0, a0, ⟨iv0, rv0, hr, hp⟩, hq⟩ => rel_keep hr hp hq)).le (by omega)) hu2 ih
theorem law_copyRow {p : Program} {l : Launch} {e : Env} {s : State} {m : MethodId} {below : List Frame} {meth : Method} {c : Code} {y : MethodName} {rt : Option FieldType} {G : GT} {b mi h0 mm n u kc ks Ln : Nat} {Lx Lm : List Nat} {E : Nat → va_E} {xs : Nat → Int32} {zs : Nat → Int} (C : Cq p s m #[Value.ref b] meth c cL_law ⟨RL, y.name, y.desc⟩ rt G (fun q => s.heap.size ≤ q) 4) (hM : Mir mi s) (hX : va_X b Ln xs s s.heap) (hbl : b < s.heap.size) (hzs : ∀ k, xs k = iI (zs k)) (hz : ∀ k, -2147483648 ≤ zs k ∧ zs k ≤ 2147483647) (hn6 : 6 * n + 6 ≤ Ln) (hLn : Ln ≤ 3072) (hI : LI (REL h0) G h0 mm n n (6500 * n) u Lx Lm E) (hu : 16 * kc + ks ≤ u) (ih : ∀ (L2 L3 : List Nat) (E3 : Nat → va_E) (kc2 ks2 u2 : Nat), LI (REL h0) G h0 mm (n + 1) (n + 1) (6500 * (n + 1)) u2 L2 L3 E3 → 16 * kc2 + ks2 ≤ u2 → wq p l e room_1 s m #[Value.ref b] below meth c G (fun q => s.heap.size ≤ q) 4 (lw_Z below #[Value.ref b] s) (L3 ++ L2) E3 kc2 ks2 18 (LV b h0 mm (n + 1)) []) : wq p l e room_1 s m #[Value.ref b] below meth c G (fun q => s.heap.size ≤ q) 4 (lw_Z below #[Value.ref b] s) (Lm ++ Lx) E kc ks 804 (LV b h0 mm n) [] := by
  refine q_aload_n (j := 2) C dL_law_804 rfl ?_
  refine q_ld (j := 1) C hX hbl hzs hn6 hLn (by decide) rfl dL_law_805 dL_law_806 dL_law_807 dL_law_808 dL_law_809 ?_
  refine q_ld (j := 2) C hX hbl hzs hn6 hLn (by decide) rfl dL_law_810 dL_law_811 dL_law_812 dL_law_813 dL_law_814 ?_
  refine q_ld (j := 3) C hX hbl hzs hn6 hLn (by decide) rfl dL_law_815 dL_law_816 dL_law_817 dL_law_818 dL_law_819 ?_
  refine q_ld (j := 4) C hX hbl hzs hn6 hLn (by decide) rfl dL_law_820 dL_law_821 dL_law_822 dL_law_823 dL_law_824 ?_
  refine q_ld (j := 5) C hX hbl hzs hn6 hLn (by decide) rfl dL_law_825 dL_law_826 dL_law_827 dL_law_828 dL_law_829 ?_
  refine law_press (As := [.int (iI (zs (6 * n + 1))), .int (iI (zs (6 * n + 2))), .int (iI (zs (6 * n + 3))), .int (iI (zs (6 * n + 4))), .int (iI (zs (6 * n + 5)))]) (rest := []) C hM hI (by omega) (by omega) hu (PO_copyRow (hz _) (hz _) (hz _) (hz _) (hz _)) dL_law_830 kV_L_98 rfl rfl rfl (Nat.le_of_ble_eq_true rfl) ⟨Nat.le_of_ble_eq_true rfl, Nat.le_of_ble_eq_true rfl⟩ (fun f1 L1 E1 kc1 ks1 u1 hf1 hI1 hu1 => ?_)
  refine q_pop C dL_law_833 rfl ?_
  refine q_aload_n (j := 1) C dL_law_834 rfl ?_
  refine q_ld (j := 1) C hX hbl hzs hn6 hLn (by decide) rfl dL_law_835 dL_law_836 dL_law_837 dL_law_838 dL_law_839 ?_
  refine q_ld (j := 2) C hX hbl hzs hn6 hLn (by decide) rfl dL_law_840 dL_law_841 dL_law_842 dL_law_843 dL_law_844 ?_
  refine q_ld (j := 3) C hX hbl hzs hn6 hLn (by decide) rfl dL_law_845 dL_law_846 dL_law_847 dL_law_848 dL_law_849 ?_
  refine q_ld (j := 4) C hX hbl hzs hn6 hLn (by decide) rfl dL_law_850 dL_law_851 dL_law_852 dL_law_853 dL_law_854 ?_
  refine q_ld (j := 5) C hX hbl hzs hn6 hLn (by decide) rfl dL_law_855 dL_law_856 dL_law_857 dL_law_858 dL_law_859 ?_
  refine law_model (As := [.int (iI (zs (6 * n + 1))), .int (iI (zs (6 * n + 2))), .int (iI (zs (6 * n + 3))), .int (iI (zs (6 * n + 4))), .int (iI (zs (6 * n + 5)))]) (rest := []) C hI1 (by omega) (by omega) hu1 (MO_copyRow (hz _) (hz _) (hz _) (hz _) (hz _)) (by decide) dL_law_860 kV_L_101 rfl rfl rfl (Nat.le_of_ble_eq_true rfl) ⟨Nat.le_of_ble_eq_true rfl, Nat.le_of_ble_eq_true rfl⟩ (fun f2 L2 E2 kc2 ks2 u2 hI2 hu2 => ?_)
  refine q_pop C dL_law_863 rfl ?_
  refine q_goto (tgt := 1377) C dL_law_864 (by decide) ?_
  exact law_tail C ((hI2.mono (fun sk iv rv v a ⟨v0, a0, ⟨iv0, rv0, hr, hp⟩, hq⟩ => rel_keep hr hp hq)).le (by omega)) hu2 ih
theorem law_copyLines {p : Program} {l : Launch} {e : Env} {s : State} {m : MethodId} {below : List Frame} {meth : Method} {c : Code} {y : MethodName} {rt : Option FieldType} {G : GT} {b mi h0 mm n u kc ks Ln : Nat} {Lx Lm : List Nat} {E : Nat → va_E} {xs : Nat → Int32} {zs : Nat → Int} (C : Cq p s m #[Value.ref b] meth c cL_law ⟨RL, y.name, y.desc⟩ rt G (fun q => s.heap.size ≤ q) 4) (hM : Mir mi s) (hX : va_X b Ln xs s s.heap) (hbl : b < s.heap.size) (hzs : ∀ k, xs k = iI (zs k)) (hz : ∀ k, -2147483648 ≤ zs k ∧ zs k ≤ 2147483647) (hn6 : 6 * n + 6 ≤ Ln) (hLn : Ln ≤ 3072) (hI : LI (REL h0) G h0 mm n n (6500 * n) u Lx Lm E) (hu : 16 * kc + ks ≤ u) (ih : ∀ (L2 L3 : List Nat) (E3 : Nat → va_E) (kc2 ks2 u2 : Nat), LI (REL h0) G h0 mm (n + 1) (n + 1) (6500 * (n + 1)) u2 L2 L3 E3 → 16 * kc2 + ks2 ≤ u2 → wq p l e room_1 s m #[Value.ref b] below meth c G (fun q => s.heap.size ≤ q) 4 (lw_Z below #[Value.ref b] s) (L3 ++ L2) E3 kc2 ks2 18 (LV b h0 mm (n + 1)) []) : wq p l e room_1 s m #[Value.ref b] below meth c G (fun q => s.heap.size ≤ q) 4 (lw_Z below #[Value.ref b] s) (Lm ++ Lx) E kc ks 867 (LV b h0 mm n) [] := by
  refine q_aload_n (j := 2) C dL_law_867 rfl ?_
  refine q_ld (j := 1) C hX hbl hzs hn6 hLn (by decide) rfl dL_law_868 dL_law_869 dL_law_870 dL_law_871 dL_law_872 ?_
  refine q_ld (j := 2) C hX hbl hzs hn6 hLn (by decide) rfl dL_law_873 dL_law_874 dL_law_875 dL_law_876 dL_law_877 ?_
  refine q_ld (j := 3) C hX hbl hzs hn6 hLn (by decide) rfl dL_law_878 dL_law_879 dL_law_880 dL_law_881 dL_law_882 ?_
  refine law_press (As := [.int (iI (zs (6 * n + 1))), .int (iI (zs (6 * n + 2))), .int (iI (zs (6 * n + 3)))]) (rest := []) C hM hI (by omega) (by omega) hu (PO_copyLines (hz _) (hz _) (hz _)) dL_law_883 kV_L_102 rfl rfl rfl (Nat.le_of_ble_eq_true rfl) ⟨Nat.le_of_ble_eq_true rfl, Nat.le_of_ble_eq_true rfl⟩ (fun f1 L1 E1 kc1 ks1 u1 hf1 hI1 hu1 => ?_)
  refine q_pop C dL_law_886 rfl ?_
  refine q_aload_n (j := 1) C dL_law_887 rfl ?_
  refine q_ld (j := 1) C hX hbl hzs hn6 hLn (by decide) rfl dL_law_888 dL_law_889 dL_law_890 dL_law_891 dL_law_892 ?_
  refine q_ld (j := 2) C hX hbl hzs hn6 hLn (by decide) rfl dL_law_893 dL_law_894 dL_law_895 dL_law_896 dL_law_897 ?_
  refine q_ld (j := 3) C hX hbl hzs hn6 hLn (by decide) rfl dL_law_898 dL_law_899 dL_law_900 dL_law_901 dL_law_902 ?_
  refine law_model (As := [.int (iI (zs (6 * n + 1))), .int (iI (zs (6 * n + 2))), .int (iI (zs (6 * n + 3)))]) (rest := []) C hI1 (by omega) (by omega) hu1 (MO_copyLines (hz _) (hz _) (hz _)) (by decide) dL_law_903 kV_L_105 rfl rfl rfl (Nat.le_of_ble_eq_true rfl) ⟨Nat.le_of_ble_eq_true rfl, Nat.le_of_ble_eq_true rfl⟩ (fun f2 L2 E2 kc2 ks2 u2 hI2 hu2 => ?_)
  refine q_pop C dL_law_906 rfl ?_
  refine q_goto (tgt := 1377) C dL_law_907 (by decide) ?_
  exact law_tail C ((hI2.mono (fun sk iv rv v a ⟨v0, a0, ⟨iv0, rv0, hr, hp⟩, hq⟩ => rel_keep hr hp hq)).le (by omega)) hu2 ih
theorem law_copied {p : Program} {l : Launch} {e : Env} {s : State} {m : MethodId} {below : List Frame} {meth : Method} {c : Code} {y : MethodName} {rt : Option FieldType} {G : GT} {b mi h0 mm n u kc ks Ln : Nat} {Lx Lm : List Nat} {E : Nat → va_E} {xs : Nat → Int32} {zs : Nat → Int} (C : Cq p s m #[Value.ref b] meth c cL_law ⟨RL, y.name, y.desc⟩ rt G (fun q => s.heap.size ≤ q) 4) (hM : Mir mi s) (hX : va_X b Ln xs s s.heap) (hbl : b < s.heap.size) (hzs : ∀ k, xs k = iI (zs k)) (hz : ∀ k, -2147483648 ≤ zs k ∧ zs k ≤ 2147483647) (hn6 : 6 * n + 6 ≤ Ln) (hLn : Ln ≤ 3072) (hI : LI (REL h0) G h0 mm n n (6500 * n) u Lx Lm E) (hu : 16 * kc + ks ≤ u) (ih : ∀ (L2 L3 : List Nat) (E3 : Nat → va_E) (kc2 ks2 u2 : Nat), LI (REL h0) G h0 mm (n + 1) (n + 1) (6500 * (n + 1)) u2 L2 L3 E3 → 16 * kc2 + ks2 ≤ u2 → wq p l e room_1 s m #[Value.ref b] below meth c G (fun q => s.heap.size ≤ q) 4 (lw_Z below #[Value.ref b] s) (L3 ++ L2) E3 kc2 ks2 18 (LV b h0 mm (n + 1)) []) : wq p l e room_1 s m #[Value.ref b] below meth c G (fun q => s.heap.size ≤ q) 4 (lw_Z below #[Value.ref b] s) (Lm ++ Lx) E kc ks 910 (LV b h0 mm n) [] := by
  refine q_aload_n (j := 2) C dL_law_910 rfl ?_
  refine law_press (As := []) (rest := []) C hM hI (by omega) (by omega) hu (PO_copied ) dL_law_911 kV_L_106 rfl rfl rfl (Nat.le_of_ble_eq_true rfl) ⟨Nat.le_of_ble_eq_true rfl, Nat.le_of_ble_eq_true rfl⟩ (fun f1 L1 E1 kc1 ks1 u1 hf1 hI1 hu1 => ?_)
  refine q_pop C dL_law_914 rfl ?_
  refine q_aload_n (j := 1) C dL_law_915 rfl ?_
  refine law_model (As := []) (rest := []) C hI1 (by omega) (by omega) hu1 (MO_copied ) (by decide) dL_law_916 kV_L_109 rfl rfl rfl (Nat.le_of_ble_eq_true rfl) ⟨Nat.le_of_ble_eq_true rfl, Nat.le_of_ble_eq_true rfl⟩ (fun f2 L2 E2 kc2 ks2 u2 hI2 hu2 => ?_)
  refine q_pop C dL_law_919 rfl ?_
  refine q_goto (tgt := 1377) C dL_law_920 (by decide) ?_
  exact law_tail C ((hI2.mono (fun sk iv rv v a ⟨v0, a0, ⟨iv0, rv0, hr, hp⟩, hq⟩ => rel_keep hr hp hq)).le (by omega)) hu2 ih
theorem law_emboss {p : Program} {l : Launch} {e : Env} {s : State} {m : MethodId} {below : List Frame} {meth : Method} {c : Code} {y : MethodName} {rt : Option FieldType} {G : GT} {b mi h0 mm n u kc ks Ln : Nat} {Lx Lm : List Nat} {E : Nat → va_E} {xs : Nat → Int32} {zs : Nat → Int} (C : Cq p s m #[Value.ref b] meth c cL_law ⟨RL, y.name, y.desc⟩ rt G (fun q => s.heap.size ≤ q) 4) (hM : Mir mi s) (hX : va_X b Ln xs s s.heap) (hbl : b < s.heap.size) (hzs : ∀ k, xs k = iI (zs k)) (hz : ∀ k, -2147483648 ≤ zs k ∧ zs k ≤ 2147483647) (hn6 : 6 * n + 6 ≤ Ln) (hLn : Ln ≤ 3072) (hI : LI (REL h0) G h0 mm n n (6500 * n) u Lx Lm E) (hu : 16 * kc + ks ≤ u) (ih : ∀ (L2 L3 : List Nat) (E3 : Nat → va_E) (kc2 ks2 u2 : Nat), LI (REL h0) G h0 mm (n + 1) (n + 1) (6500 * (n + 1)) u2 L2 L3 E3 → 16 * kc2 + ks2 ≤ u2 → wq p l e room_1 s m #[Value.ref b] below meth c G (fun q => s.heap.size ≤ q) 4 (lw_Z below #[Value.ref b] s) (L3 ++ L2) E3 kc2 ks2 18 (LV b h0 mm (n + 1)) []) : wq p l e room_1 s m #[Value.ref b] below meth c G (fun q => s.heap.size ≤ q) 4 (lw_Z below #[Value.ref b] s) (Lm ++ Lx) E kc ks 923 (LV b h0 mm n) [] := by
  refine q_aload_n (j := 2) C dL_law_923 rfl ?_
  refine q_ld (j := 1) C hX hbl hzs hn6 hLn (by decide) rfl dL_law_924 dL_law_925 dL_law_926 dL_law_927 dL_law_928 ?_
  refine q_ld (j := 2) C hX hbl hzs hn6 hLn (by decide) rfl dL_law_929 dL_law_930 dL_law_931 dL_law_932 dL_law_933 ?_
  refine law_press (As := [.int (iI (zs (6 * n + 1))), .int (iI (zs (6 * n + 2)))]) (rest := []) C hM hI (by omega) (by omega) hu (PO_emboss (hz _) (hz _)) dL_law_934 kV_L_110 rfl rfl rfl (Nat.le_of_ble_eq_true rfl) ⟨Nat.le_of_ble_eq_true rfl, Nat.le_of_ble_eq_true rfl⟩ (fun f1 L1 E1 kc1 ks1 u1 hf1 hI1 hu1 => ?_)
  refine q_pop C dL_law_937 rfl ?_
  refine q_aload_n (j := 1) C dL_law_938 rfl ?_
  refine q_ld (j := 1) C hX hbl hzs hn6 hLn (by decide) rfl dL_law_939 dL_law_940 dL_law_941 dL_law_942 dL_law_943 ?_
  refine q_ld (j := 2) C hX hbl hzs hn6 hLn (by decide) rfl dL_law_944 dL_law_945 dL_law_946 dL_law_947 dL_law_948 ?_
  refine law_model (As := [.int (iI (zs (6 * n + 1))), .int (iI (zs (6 * n + 2)))]) (rest := []) C hI1 (by omega) (by omega) hu1 (MO_emboss (hz _) (hz _)) (by decide) dL_law_949 kV_L_113 rfl rfl rfl (Nat.le_of_ble_eq_true rfl) ⟨Nat.le_of_ble_eq_true rfl, Nat.le_of_ble_eq_true rfl⟩ (fun f2 L2 E2 kc2 ks2 u2 hI2 hu2 => ?_)
  refine q_pop C dL_law_952 rfl ?_
  refine q_goto (tgt := 1377) C dL_law_953 (by decide) ?_
  exact law_tail C ((hI2.mono (fun sk iv rv v a ⟨v0, a0, ⟨iv0, rv0, hr, hp⟩, hq⟩ => rel_keep hr hp hq)).le (by omega)) hu2 ih
theorem law_closed {p : Program} {l : Launch} {e : Env} {s : State} {m : MethodId} {below : List Frame} {meth : Method} {c : Code} {y : MethodName} {rt : Option FieldType} {G : GT} {b mi h0 mm n u kc ks Ln : Nat} {Lx Lm : List Nat} {E : Nat → va_E} {xs : Nat → Int32} {zs : Nat → Int} (C : Cq p s m #[Value.ref b] meth c cL_law ⟨RL, y.name, y.desc⟩ rt G (fun q => s.heap.size ≤ q) 4) (hM : Mir mi s) (hX : va_X b Ln xs s s.heap) (hbl : b < s.heap.size) (hzs : ∀ k, xs k = iI (zs k)) (hz : ∀ k, -2147483648 ≤ zs k ∧ zs k ≤ 2147483647) (hn6 : 6 * n + 6 ≤ Ln) (hLn : Ln ≤ 3072) (hI : LI (REL h0) G h0 mm n n (6500 * n) u Lx Lm E) (hu : 16 * kc + ks ≤ u) (ih : ∀ (L2 L3 : List Nat) (E3 : Nat → va_E) (kc2 ks2 u2 : Nat), LI (REL h0) G h0 mm (n + 1) (n + 1) (6500 * (n + 1)) u2 L2 L3 E3 → 16 * kc2 + ks2 ≤ u2 → wq p l e room_1 s m #[Value.ref b] below meth c G (fun q => s.heap.size ≤ q) 4 (lw_Z below #[Value.ref b] s) (L3 ++ L2) E3 kc2 ks2 18 (LV b h0 mm (n + 1)) []) : wq p l e room_1 s m #[Value.ref b] below meth c G (fun q => s.heap.size ≤ q) 4 (lw_Z below #[Value.ref b] s) (Lm ++ Lx) E kc ks 956 (LV b h0 mm n) [] := by
  refine q_aload_n (j := 2) C dL_law_956 rfl ?_
  refine law_press (As := []) (rest := []) C hM hI (by omega) (by omega) hu (PO_closed ) dL_law_957 kV_L_114 rfl rfl rfl (Nat.le_of_ble_eq_true rfl) ⟨Nat.le_of_ble_eq_true rfl, Nat.le_of_ble_eq_true rfl⟩ (fun f1 L1 E1 kc1 ks1 u1 hf1 hI1 hu1 => ?_)
  refine q_pop C dL_law_960 rfl ?_
  refine q_aload_n (j := 1) C dL_law_961 rfl ?_
  refine law_model (As := []) (rest := []) C hI1 (by omega) (by omega) hu1 (MO_closed ) (by decide) dL_law_962 kV_L_117 rfl rfl rfl (Nat.le_of_ble_eq_true rfl) ⟨Nat.le_of_ble_eq_true rfl, Nat.le_of_ble_eq_true rfl⟩ (fun f2 L2 E2 kc2 ks2 u2 hI2 hu2 => ?_)
  refine q_pop C dL_law_965 rfl ?_
  refine q_goto (tgt := 1377) C dL_law_966 (by decide) ?_
  exact law_tail C ((hI2.mono (fun sk iv rv v a ⟨v0, a0, ⟨iv0, rv0, hr, hp⟩, hq⟩ => rel_keep hr hp hq)).le (by omega)) hu2 ih
theorem law_read {p : Program} {l : Launch} {e : Env} {s : State} {m : MethodId} {below : List Frame} {meth : Method} {c : Code} {y : MethodName} {rt : Option FieldType} {G : GT} {b mi h0 mm n u kc ks Ln : Nat} {Lx Lm : List Nat} {E : Nat → va_E} {xs : Nat → Int32} {zs : Nat → Int} (C : Cq p s m #[Value.ref b] meth c cL_law ⟨RL, y.name, y.desc⟩ rt G (fun q => s.heap.size ≤ q) 4) (hM : Mir mi s) (hX : va_X b Ln xs s s.heap) (hbl : b < s.heap.size) (hzs : ∀ k, xs k = iI (zs k)) (hz : ∀ k, -2147483648 ≤ zs k ∧ zs k ≤ 2147483647) (hn6 : 6 * n + 6 ≤ Ln) (hLn : Ln ≤ 3072) (hI : LI (REL h0) G h0 mm n n (6500 * n) u Lx Lm E) (hu : 16 * kc + ks ≤ u) (ih : ∀ (L2 L3 : List Nat) (E3 : Nat → va_E) (kc2 ks2 u2 : Nat), LI (REL h0) G h0 mm (n + 1) (n + 1) (6500 * (n + 1)) u2 L2 L3 E3 → 16 * kc2 + ks2 ≤ u2 → wq p l e room_1 s m #[Value.ref b] below meth c G (fun q => s.heap.size ≤ q) 4 (lw_Z below #[Value.ref b] s) (L3 ++ L2) E3 kc2 ks2 18 (LV b h0 mm (n + 1)) []) : wq p l e room_1 s m #[Value.ref b] below meth c G (fun q => s.heap.size ≤ q) 4 (lw_Z below #[Value.ref b] s) (Lm ++ Lx) E kc ks 969 (LV b h0 mm n) [] := by
  refine q_aload_n (j := 2) C dL_law_969 rfl ?_
  refine q_ld (j := 1) C hX hbl hzs hn6 hLn (by decide) rfl dL_law_970 dL_law_971 dL_law_972 dL_law_973 dL_law_974 ?_
  refine q_ld (j := 2) C hX hbl hzs hn6 hLn (by decide) rfl dL_law_975 dL_law_976 dL_law_977 dL_law_978 dL_law_979 ?_
  refine q_ld (j := 3) C hX hbl hzs hn6 hLn (by decide) rfl dL_law_980 dL_law_981 dL_law_982 dL_law_983 dL_law_984 ?_
  refine law_press (As := [.int (iI (zs (6 * n + 1))), .int (iI (zs (6 * n + 2))), .int (iI (zs (6 * n + 3)))]) (rest := []) C hM hI (by omega) (by omega) hu (PO_read (hz _) (hz _) (hz _)) dL_law_985 kV_L_118 rfl rfl rfl (Nat.le_of_ble_eq_true rfl) ⟨Nat.le_of_ble_eq_true rfl, Nat.le_of_ble_eq_true rfl⟩ (fun f1 L1 E1 kc1 ks1 u1 hf1 hI1 hu1 => ?_)
  refine q_pop C dL_law_988 rfl ?_
  refine q_aload_n (j := 1) C dL_law_989 rfl ?_
  refine q_ld (j := 1) C hX hbl hzs hn6 hLn (by decide) rfl dL_law_990 dL_law_991 dL_law_992 dL_law_993 dL_law_994 ?_
  refine q_ld (j := 2) C hX hbl hzs hn6 hLn (by decide) rfl dL_law_995 dL_law_996 dL_law_997 dL_law_998 dL_law_999 ?_
  refine q_ld (j := 3) C hX hbl hzs hn6 hLn (by decide) rfl dL_law_1000 dL_law_1001 dL_law_1002 dL_law_1003 dL_law_1004 ?_
  refine law_model (As := [.int (iI (zs (6 * n + 1))), .int (iI (zs (6 * n + 2))), .int (iI (zs (6 * n + 3)))]) (rest := []) C hI1 (by omega) (by omega) hu1 (MO_read (hz _) (hz _) (hz _)) (by decide) dL_law_1005 kV_L_121 rfl rfl rfl (Nat.le_of_ble_eq_true rfl) ⟨Nat.le_of_ble_eq_true rfl, Nat.le_of_ble_eq_true rfl⟩ (fun f2 L2 E2 kc2 ks2 u2 hI2 hu2 => ?_)
  refine q_pop C dL_law_1008 rfl ?_
  refine q_goto (tgt := 1377) C dL_law_1009 (by decide) ?_
  exact law_tail C ((hI2.mono (fun sk iv rv v a ⟨v0, a0, ⟨iv0, rv0, hr, hp⟩, hq⟩ => rel_keep hr hp hq)).le (by omega)) hu2 ih
theorem law_letter {p : Program} {l : Launch} {e : Env} {s : State} {m : MethodId} {below : List Frame} {meth : Method} {c : Code} {y : MethodName} {rt : Option FieldType} {G : GT} {b mi h0 mm n u kc ks Ln : Nat} {Lx Lm : List Nat} {E : Nat → va_E} {xs : Nat → Int32} {zs : Nat → Int} (C : Cq p s m #[Value.ref b] meth c cL_law ⟨RL, y.name, y.desc⟩ rt G (fun q => s.heap.size ≤ q) 4) (hM : Mir mi s) (hX : va_X b Ln xs s s.heap) (hbl : b < s.heap.size) (hzs : ∀ k, xs k = iI (zs k)) (hz : ∀ k, -2147483648 ≤ zs k ∧ zs k ≤ 2147483647) (hn6 : 6 * n + 6 ≤ Ln) (hLn : Ln ≤ 3072) (hI : LI (REL h0) G h0 mm n n (6500 * n) u Lx Lm E) (hu : 16 * kc + ks ≤ u) (ih : ∀ (L2 L3 : List Nat) (E3 : Nat → va_E) (kc2 ks2 u2 : Nat), LI (REL h0) G h0 mm (n + 1) (n + 1) (6500 * (n + 1)) u2 L2 L3 E3 → 16 * kc2 + ks2 ≤ u2 → wq p l e room_1 s m #[Value.ref b] below meth c G (fun q => s.heap.size ≤ q) 4 (lw_Z below #[Value.ref b] s) (L3 ++ L2) E3 kc2 ks2 18 (LV b h0 mm (n + 1)) []) : wq p l e room_1 s m #[Value.ref b] below meth c G (fun q => s.heap.size ≤ q) 4 (lw_Z below #[Value.ref b] s) (Lm ++ Lx) E kc ks 1012 (LV b h0 mm n) [] := by
  refine q_aload_n (j := 2) C dL_law_1012 rfl ?_
  refine q_ld (j := 1) C hX hbl hzs hn6 hLn (by decide) rfl dL_law_1013 dL_law_1014 dL_law_1015 dL_law_1016 dL_law_1017 ?_
  refine law_press (As := [.int (iI (zs (6 * n + 1)))]) (rest := []) C hM hI (by omega) (by omega) hu (PO_letter (hz _)) dL_law_1018 kV_L_122 rfl rfl rfl (Nat.le_of_ble_eq_true rfl) ⟨Nat.le_of_ble_eq_true rfl, Nat.le_of_ble_eq_true rfl⟩ (fun f1 L1 E1 kc1 ks1 u1 hf1 hI1 hu1 => ?_)
  refine q_pop C dL_law_1021 rfl ?_
  refine q_aload_n (j := 1) C dL_law_1022 rfl ?_
  refine q_ld (j := 1) C hX hbl hzs hn6 hLn (by decide) rfl dL_law_1023 dL_law_1024 dL_law_1025 dL_law_1026 dL_law_1027 ?_
  refine law_model (As := [.int (iI (zs (6 * n + 1)))]) (rest := []) C hI1 (by omega) (by omega) hu1 (MO_letter (hz _)) (by decide) dL_law_1028 kV_L_125 rfl rfl rfl (Nat.le_of_ble_eq_true rfl) ⟨Nat.le_of_ble_eq_true rfl, Nat.le_of_ble_eq_true rfl⟩ (fun f2 L2 E2 kc2 ks2 u2 hI2 hu2 => ?_)
  refine q_pop C dL_law_1031 rfl ?_
  refine q_goto (tgt := 1377) C dL_law_1032 (by decide) ?_
  exact law_tail C ((hI2.mono (fun sk iv rv v a ⟨v0, a0, ⟨iv0, rv0, hr, hp⟩, hq⟩ => rel_keep hr hp hq)).le (by omega)) hu2 ih
theorem law_failed {p : Program} {l : Launch} {e : Env} {s : State} {m : MethodId} {below : List Frame} {meth : Method} {c : Code} {y : MethodName} {rt : Option FieldType} {G : GT} {b mi h0 mm n u kc ks Ln : Nat} {Lx Lm : List Nat} {E : Nat → va_E} {xs : Nat → Int32} {zs : Nat → Int} (C : Cq p s m #[Value.ref b] meth c cL_law ⟨RL, y.name, y.desc⟩ rt G (fun q => s.heap.size ≤ q) 4) (hM : Mir mi s) (hX : va_X b Ln xs s s.heap) (hbl : b < s.heap.size) (hzs : ∀ k, xs k = iI (zs k)) (hz : ∀ k, -2147483648 ≤ zs k ∧ zs k ≤ 2147483647) (hn6 : 6 * n + 6 ≤ Ln) (hLn : Ln ≤ 3072) (hI : LI (REL h0) G h0 mm n n (6500 * n) u Lx Lm E) (hu : 16 * kc + ks ≤ u) (ih : ∀ (L2 L3 : List Nat) (E3 : Nat → va_E) (kc2 ks2 u2 : Nat), LI (REL h0) G h0 mm (n + 1) (n + 1) (6500 * (n + 1)) u2 L2 L3 E3 → 16 * kc2 + ks2 ≤ u2 → wq p l e room_1 s m #[Value.ref b] below meth c G (fun q => s.heap.size ≤ q) 4 (lw_Z below #[Value.ref b] s) (L3 ++ L2) E3 kc2 ks2 18 (LV b h0 mm (n + 1)) []) : wq p l e room_1 s m #[Value.ref b] below meth c G (fun q => s.heap.size ≤ q) 4 (lw_Z below #[Value.ref b] s) (Lm ++ Lx) E kc ks 1035 (LV b h0 mm n) [] := by
  refine q_aload_n (j := 2) C dL_law_1035 rfl ?_
  refine q_ld (j := 1) C hX hbl hzs hn6 hLn (by decide) rfl dL_law_1036 dL_law_1037 dL_law_1038 dL_law_1039 dL_law_1040 ?_
  refine q_ld (j := 2) C hX hbl hzs hn6 hLn (by decide) rfl dL_law_1041 dL_law_1042 dL_law_1043 dL_law_1044 dL_law_1045 ?_
  refine q_if_eq (tgt := 1053) C dL_law_1046 (by decide) (fun hc0 => ?_) (fun hc0 => ?_)
  · refine q_iconst (v := iI 0) C dL_law_1053 (by decide) ?_
    refine law_press (As := [.int (iI (zs (6 * n + 1))), .int (iI 0)]) (rest := []) C hM hI (by omega) (by omega) hu (PO_failed (hz _) ⟨by decide, by decide⟩) dL_law_1054 kV_L_126 rfl rfl rfl (Nat.le_of_ble_eq_true rfl) ⟨Nat.le_of_ble_eq_true rfl, Nat.le_of_ble_eq_true rfl⟩ (fun f1 L1 E1 kc1 ks1 u1 hf1 hI1 hu1 => ?_)
    refine q_pop C dL_law_1057 rfl ?_
    refine q_aload_n (j := 1) C dL_law_1058 rfl ?_
    refine q_ld (j := 1) C hX hbl hzs hn6 hLn (by decide) rfl dL_law_1059 dL_law_1060 dL_law_1061 dL_law_1062 dL_law_1063 ?_
    refine q_ld (j := 2) C hX hbl hzs hn6 hLn (by decide) rfl dL_law_1064 dL_law_1065 dL_law_1066 dL_law_1067 dL_law_1068 ?_
    refine q_if_eq (tgt := 1076) C dL_law_1069 (by decide) (fun hc1 => ?_) (fun hc1 => ?_)
    · refine q_iconst (v := iI 0) C dL_law_1076 (by decide) ?_
      refine law_model (As := [.int (iI (zs (6 * n + 1))), .int (iI 0)]) (rest := []) C hI1 (by omega) (by omega) hu1 (MO_failed (hz _) (Or.inl rfl)) (by decide) dL_law_1077 kV_L_130 rfl rfl rfl (Nat.le_of_ble_eq_true rfl) ⟨Nat.le_of_ble_eq_true rfl, Nat.le_of_ble_eq_true rfl⟩ (fun f2 L2 E2 kc2 ks2 u2 hI2 hu2 => ?_)
      refine q_pop C dL_law_1080 rfl ?_
      refine q_goto (tgt := 1377) C dL_law_1081 (by decide) ?_
      exact law_tail C ((hI2.mono (fun sk iv rv v a ⟨v0, a0, ⟨iv0, rv0, hr, hp⟩, hq⟩ => rel_failed hr hp hq)).le (by omega)) hu2 ih
    · exact absurd hc0 hc1
  · refine q_iconst (v := iI 1) C dL_law_1049 (by decide) ?_
    refine q_goto (tgt := 1054) C dL_law_1050 (by decide) ?_
    refine law_press (As := [.int (iI (zs (6 * n + 1))), .int (iI 1)]) (rest := []) C hM hI (by omega) (by omega) hu (PO_failed (hz _) ⟨by decide, by decide⟩) dL_law_1054 kV_L_126 rfl rfl rfl (Nat.le_of_ble_eq_true rfl) ⟨Nat.le_of_ble_eq_true rfl, Nat.le_of_ble_eq_true rfl⟩ (fun f3 L3 E3 kc3 ks3 u3 hf3 hI3 hu3 => ?_)
    refine q_pop C dL_law_1057 rfl ?_
    refine q_aload_n (j := 1) C dL_law_1058 rfl ?_
    refine q_ld (j := 1) C hX hbl hzs hn6 hLn (by decide) rfl dL_law_1059 dL_law_1060 dL_law_1061 dL_law_1062 dL_law_1063 ?_
    refine q_ld (j := 2) C hX hbl hzs hn6 hLn (by decide) rfl dL_law_1064 dL_law_1065 dL_law_1066 dL_law_1067 dL_law_1068 ?_
    refine q_if_eq (tgt := 1076) C dL_law_1069 (by decide) (fun hc1 => ?_) (fun hc1 => ?_)
    · exact absurd hc1 hc0
    · refine q_iconst (v := iI 1) C dL_law_1072 (by decide) ?_
      refine q_goto (tgt := 1077) C dL_law_1073 (by decide) ?_
      refine law_model (As := [.int (iI (zs (6 * n + 1))), .int (iI 1)]) (rest := []) C hI3 (by omega) (by omega) hu3 (MO_failed (hz _) (Or.inr rfl)) (by decide) dL_law_1077 kV_L_130 rfl rfl rfl (Nat.le_of_ble_eq_true rfl) ⟨Nat.le_of_ble_eq_true rfl, Nat.le_of_ble_eq_true rfl⟩ (fun f4 L4 E4 kc4 ks4 u4 hI4 hu4 => ?_)
      refine q_pop C dL_law_1080 rfl ?_
      refine q_goto (tgt := 1377) C dL_law_1081 (by decide) ?_
      exact law_tail C ((hI4.mono (fun sk iv rv v a ⟨v0, a0, ⟨iv0, rv0, hr, hp⟩, hq⟩ => rel_failed hr hp hq)).le (by omega)) hu4 ih
theorem law_readings {p : Program} {l : Launch} {e : Env} {s : State} {m : MethodId} {below : List Frame} {meth : Method} {c : Code} {y : MethodName} {rt : Option FieldType} {G : GT} {b mi h0 mm n u kc ks Ln : Nat} {Lx Lm : List Nat} {E : Nat → va_E} {xs : Nat → Int32} {zs : Nat → Int} (C : Cq p s m #[Value.ref b] meth c cL_law ⟨RL, y.name, y.desc⟩ rt G (fun q => s.heap.size ≤ q) 4) (hM : Mir mi s) (hX : va_X b Ln xs s s.heap) (hbl : b < s.heap.size) (hzs : ∀ k, xs k = iI (zs k)) (hz : ∀ k, -2147483648 ≤ zs k ∧ zs k ≤ 2147483647) (hn6 : 6 * n + 6 ≤ Ln) (hLn : Ln ≤ 3072) (hI : LI (REL h0) G h0 mm n n (6500 * n) u Lx Lm E) (hu : 16 * kc + ks ≤ u) (ih : ∀ (L2 L3 : List Nat) (E3 : Nat → va_E) (kc2 ks2 u2 : Nat), LI (REL h0) G h0 mm (n + 1) (n + 1) (6500 * (n + 1)) u2 L2 L3 E3 → 16 * kc2 + ks2 ≤ u2 → wq p l e room_1 s m #[Value.ref b] below meth c G (fun q => s.heap.size ≤ q) 4 (lw_Z below #[Value.ref b] s) (L3 ++ L2) E3 kc2 ks2 18 (LV b h0 mm (n + 1)) []) : wq p l e room_1 s m #[Value.ref b] below meth c G (fun q => s.heap.size ≤ q) 4 (lw_Z below #[Value.ref b] s) (Lm ++ Lx) E kc ks 1084 (LV b h0 mm n) [] := by
  refine q_aload_n (j := 2) C dL_law_1084 rfl ?_
  refine q_ld (j := 1) C hX hbl hzs hn6 hLn (by decide) rfl dL_law_1085 dL_law_1086 dL_law_1087 dL_law_1088 dL_law_1089 ?_
  refine q_ld (j := 2) C hX hbl hzs hn6 hLn (by decide) rfl dL_law_1090 dL_law_1091 dL_law_1092 dL_law_1093 dL_law_1094 ?_
  refine q_ld (j := 3) C hX hbl hzs hn6 hLn (by decide) rfl dL_law_1095 dL_law_1096 dL_law_1097 dL_law_1098 dL_law_1099 ?_
  refine law_press (As := [.int (iI (zs (6 * n + 1))), .int (iI (zs (6 * n + 2))), .int (iI (zs (6 * n + 3)))]) (rest := []) C hM hI (by omega) (by omega) hu (PO_readings (hz _) (hz _) (hz _)) dL_law_1100 kV_L_131 rfl rfl rfl (Nat.le_of_ble_eq_true rfl) ⟨Nat.le_of_ble_eq_true rfl, Nat.le_of_ble_eq_true rfl⟩ (fun f1 L1 E1 kc1 ks1 u1 hf1 hI1 hu1 => ?_)
  refine q_pop C dL_law_1103 rfl ?_
  refine q_aload_n (j := 1) C dL_law_1104 rfl ?_
  refine q_ld (j := 1) C hX hbl hzs hn6 hLn (by decide) rfl dL_law_1105 dL_law_1106 dL_law_1107 dL_law_1108 dL_law_1109 ?_
  refine q_ld (j := 2) C hX hbl hzs hn6 hLn (by decide) rfl dL_law_1110 dL_law_1111 dL_law_1112 dL_law_1113 dL_law_1114 ?_
  refine q_ld (j := 3) C hX hbl hzs hn6 hLn (by decide) rfl dL_law_1115 dL_law_1116 dL_law_1117 dL_law_1118 dL_law_1119 ?_
  refine law_model (As := [.int (iI (zs (6 * n + 1))), .int (iI (zs (6 * n + 2))), .int (iI (zs (6 * n + 3)))]) (rest := []) C hI1 (by omega) (by omega) hu1 (MO_readings (hz _) (hz _) (hz _)) (by decide) dL_law_1120 kV_L_134 rfl rfl rfl (Nat.le_of_ble_eq_true rfl) ⟨Nat.le_of_ble_eq_true rfl, Nat.le_of_ble_eq_true rfl⟩ (fun f2 L2 E2 kc2 ks2 u2 hI2 hu2 => ?_)
  refine q_pop C dL_law_1123 rfl ?_
  refine q_goto (tgt := 1377) C dL_law_1124 (by decide) ?_
  exact law_tail C ((hI2.mono (fun sk iv rv v a ⟨v0, a0, ⟨iv0, rv0, hr, hp⟩, hq⟩ => rel_keep hr hp hq)).le (by omega)) hu2 ih
theorem law_more {p : Program} {l : Launch} {e : Env} {s : State} {m : MethodId} {below : List Frame} {meth : Method} {c : Code} {y : MethodName} {rt : Option FieldType} {G : GT} {b mi h0 mm n u kc ks Ln : Nat} {Lx Lm : List Nat} {E : Nat → va_E} {xs : Nat → Int32} {zs : Nat → Int} (C : Cq p s m #[Value.ref b] meth c cL_law ⟨RL, y.name, y.desc⟩ rt G (fun q => s.heap.size ≤ q) 4) (hM : Mir mi s) (hX : va_X b Ln xs s s.heap) (hbl : b < s.heap.size) (hzs : ∀ k, xs k = iI (zs k)) (hz : ∀ k, -2147483648 ≤ zs k ∧ zs k ≤ 2147483647) (hn6 : 6 * n + 6 ≤ Ln) (hLn : Ln ≤ 3072) (hI : LI (REL h0) G h0 mm n n (6500 * n) u Lx Lm E) (hu : 16 * kc + ks ≤ u) (ih : ∀ (L2 L3 : List Nat) (E3 : Nat → va_E) (kc2 ks2 u2 : Nat), LI (REL h0) G h0 mm (n + 1) (n + 1) (6500 * (n + 1)) u2 L2 L3 E3 → 16 * kc2 + ks2 ≤ u2 → wq p l e room_1 s m #[Value.ref b] below meth c G (fun q => s.heap.size ≤ q) 4 (lw_Z below #[Value.ref b] s) (L3 ++ L2) E3 kc2 ks2 18 (LV b h0 mm (n + 1)) []) : wq p l e room_1 s m #[Value.ref b] below meth c G (fun q => s.heap.size ≤ q) 4 (lw_Z below #[Value.ref b] s) (Lm ++ Lx) E kc ks 1127 (LV b h0 mm n) [] := by
  refine q_aload_n (j := 2) C dL_law_1127 rfl ?_
  refine law_press (As := []) (rest := []) C hM hI (by omega) (by omega) hu (PO_more ) dL_law_1128 kV_L_135 rfl rfl rfl (Nat.le_of_ble_eq_true rfl) ⟨Nat.le_of_ble_eq_true rfl, Nat.le_of_ble_eq_true rfl⟩ (fun f1 L1 E1 kc1 ks1 u1 hf1 hI1 hu1 => ?_)
  refine q_pop C dL_law_1131 rfl ?_
  refine q_aload_n (j := 1) C dL_law_1132 rfl ?_
  refine law_model (As := []) (rest := []) C hI1 (by omega) (by omega) hu1 (MO_more ) (by decide) dL_law_1133 kV_L_138 rfl rfl rfl (Nat.le_of_ble_eq_true rfl) ⟨Nat.le_of_ble_eq_true rfl, Nat.le_of_ble_eq_true rfl⟩ (fun f2 L2 E2 kc2 ks2 u2 hI2 hu2 => ?_)
  refine q_pop C dL_law_1136 rfl ?_
  refine q_goto (tgt := 1377) C dL_law_1137 (by decide) ?_
  exact law_tail C ((hI2.mono (fun sk iv rv v a ⟨v0, a0, ⟨iv0, rv0, hr, hp⟩, hq⟩ => rel_keep hr hp hq)).le (by omega)) hu2 ih
theorem law_reading {p : Program} {l : Launch} {e : Env} {s : State} {m : MethodId} {below : List Frame} {meth : Method} {c : Code} {y : MethodName} {rt : Option FieldType} {G : GT} {b mi h0 mm n u kc ks Ln : Nat} {Lx Lm : List Nat} {E : Nat → va_E} {xs : Nat → Int32} {zs : Nat → Int} (C : Cq p s m #[Value.ref b] meth c cL_law ⟨RL, y.name, y.desc⟩ rt G (fun q => s.heap.size ≤ q) 4) (hM : Mir mi s) (hX : va_X b Ln xs s s.heap) (hbl : b < s.heap.size) (hzs : ∀ k, xs k = iI (zs k)) (hz : ∀ k, -2147483648 ≤ zs k ∧ zs k ≤ 2147483647) (hn6 : 6 * n + 6 ≤ Ln) (hLn : Ln ≤ 3072) (hI : LI (REL h0) G h0 mm n n (6500 * n) u Lx Lm E) (hu : 16 * kc + ks ≤ u) (ih : ∀ (L2 L3 : List Nat) (E3 : Nat → va_E) (kc2 ks2 u2 : Nat), LI (REL h0) G h0 mm (n + 1) (n + 1) (6500 * (n + 1)) u2 L2 L3 E3 → 16 * kc2 + ks2 ≤ u2 → wq p l e room_1 s m #[Value.ref b] below meth c G (fun q => s.heap.size ≤ q) 4 (lw_Z below #[Value.ref b] s) (L3 ++ L2) E3 kc2 ks2 18 (LV b h0 mm (n + 1)) []) : wq p l e room_1 s m #[Value.ref b] below meth c G (fun q => s.heap.size ≤ q) 4 (lw_Z below #[Value.ref b] s) (Lm ++ Lx) E kc ks 1140 (LV b h0 mm n) [] := by
  refine q_aload_n (j := 2) C dL_law_1140 rfl ?_
  refine q_ld (j := 1) C hX hbl hzs hn6 hLn (by decide) rfl dL_law_1141 dL_law_1142 dL_law_1143 dL_law_1144 dL_law_1145 ?_
  refine q_ld (j := 2) C hX hbl hzs hn6 hLn (by decide) rfl dL_law_1146 dL_law_1147 dL_law_1148 dL_law_1149 dL_law_1150 ?_
  refine law_press (As := [.int (iI (zs (6 * n + 1))), .int (iI (zs (6 * n + 2)))]) (rest := []) C hM hI (by omega) (by omega) hu (PO_reading (hz _) (hz _)) dL_law_1151 kV_L_139 rfl rfl rfl (Nat.le_of_ble_eq_true rfl) ⟨Nat.le_of_ble_eq_true rfl, Nat.le_of_ble_eq_true rfl⟩ (fun f1 L1 E1 kc1 ks1 u1 hf1 hI1 hu1 => ?_)
  refine q_pop C dL_law_1154 rfl ?_
  refine q_aload_n (j := 1) C dL_law_1155 rfl ?_
  refine q_ld (j := 1) C hX hbl hzs hn6 hLn (by decide) rfl dL_law_1156 dL_law_1157 dL_law_1158 dL_law_1159 dL_law_1160 ?_
  refine q_ld (j := 2) C hX hbl hzs hn6 hLn (by decide) rfl dL_law_1161 dL_law_1162 dL_law_1163 dL_law_1164 dL_law_1165 ?_
  refine law_model (As := [.int (iI (zs (6 * n + 1))), .int (iI (zs (6 * n + 2)))]) (rest := []) C hI1 (by omega) (by omega) hu1 (MO_reading (hz _) (hz _)) (by decide) dL_law_1166 kV_L_142 rfl rfl rfl (Nat.le_of_ble_eq_true rfl) ⟨Nat.le_of_ble_eq_true rfl, Nat.le_of_ble_eq_true rfl⟩ (fun f2 L2 E2 kc2 ks2 u2 hI2 hu2 => ?_)
  refine q_pop C dL_law_1169 rfl ?_
  refine q_goto (tgt := 1377) C dL_law_1170 (by decide) ?_
  exact law_tail C ((hI2.mono (fun sk iv rv v a ⟨v0, a0, ⟨iv0, rv0, hr, hp⟩, hq⟩ => rel_keep hr hp hq)).le (by omega)) hu2 ih
theorem law_judge {p : Program} {l : Launch} {e : Env} {s : State} {m : MethodId} {below : List Frame} {meth : Method} {c : Code} {y : MethodName} {rt : Option FieldType} {G : GT} {b mi h0 mm n u kc ks Ln : Nat} {Lx Lm : List Nat} {E : Nat → va_E} {xs : Nat → Int32} {zs : Nat → Int} (C : Cq p s m #[Value.ref b] meth c cL_law ⟨RL, y.name, y.desc⟩ rt G (fun q => s.heap.size ≤ q) 4) (hM : Mir mi s) (hX : va_X b Ln xs s s.heap) (hbl : b < s.heap.size) (hzs : ∀ k, xs k = iI (zs k)) (hz : ∀ k, -2147483648 ≤ zs k ∧ zs k ≤ 2147483647) (hn6 : 6 * n + 6 ≤ Ln) (hLn : Ln ≤ 3072) (hI : LI (REL h0) G h0 mm n n (6500 * n) u Lx Lm E) (hu : 16 * kc + ks ≤ u) (ih : ∀ (L2 L3 : List Nat) (E3 : Nat → va_E) (kc2 ks2 u2 : Nat), LI (REL h0) G h0 mm (n + 1) (n + 1) (6500 * (n + 1)) u2 L2 L3 E3 → 16 * kc2 + ks2 ≤ u2 → wq p l e room_1 s m #[Value.ref b] below meth c G (fun q => s.heap.size ≤ q) 4 (lw_Z below #[Value.ref b] s) (L3 ++ L2) E3 kc2 ks2 18 (LV b h0 mm (n + 1)) []) : wq p l e room_1 s m #[Value.ref b] below meth c G (fun q => s.heap.size ≤ q) 4 (lw_Z below #[Value.ref b] s) (Lm ++ Lx) E kc ks 1173 (LV b h0 mm n) [] := by
  refine q_aload_n (j := 2) C dL_law_1173 rfl ?_
  refine q_ld (j := 1) C hX hbl hzs hn6 hLn (by decide) rfl dL_law_1174 dL_law_1175 dL_law_1176 dL_law_1177 dL_law_1178 ?_
  refine law_press (As := [.int (iI (zs (6 * n + 1)))]) (rest := []) C hM hI (by omega) (by omega) hu (PO_judge (hz _)) dL_law_1179 kV_L_143 rfl rfl rfl (Nat.le_of_ble_eq_true rfl) ⟨Nat.le_of_ble_eq_true rfl, Nat.le_of_ble_eq_true rfl⟩ (fun f1 L1 E1 kc1 ks1 u1 hf1 hI1 hu1 => ?_)
  refine q_pop C dL_law_1182 rfl ?_
  refine q_aload_n (j := 1) C dL_law_1183 rfl ?_
  refine q_ld (j := 1) C hX hbl hzs hn6 hLn (by decide) rfl dL_law_1184 dL_law_1185 dL_law_1186 dL_law_1187 dL_law_1188 ?_
  refine law_model (As := [.int (iI (zs (6 * n + 1)))]) (rest := []) C hI1 (by omega) (by omega) hu1 (MO_judge (hz _)) (by decide) dL_law_1189 kV_L_146 rfl rfl rfl (Nat.le_of_ble_eq_true rfl) ⟨Nat.le_of_ble_eq_true rfl, Nat.le_of_ble_eq_true rfl⟩ (fun f2 L2 E2 kc2 ks2 u2 hI2 hu2 => ?_)
  refine q_pop C dL_law_1192 rfl ?_
  refine q_goto (tgt := 1377) C dL_law_1193 (by decide) ?_
  exact law_tail C ((hI2.mono (fun sk iv rv v a ⟨v0, a0, ⟨iv0, rv0, hr, hp⟩, hq⟩ => rel_keep hr hp hq)).le (by omega)) hu2 ih
theorem law_parts {p : Program} {l : Launch} {e : Env} {s : State} {m : MethodId} {below : List Frame} {meth : Method} {c : Code} {y : MethodName} {rt : Option FieldType} {G : GT} {b mi h0 mm n u kc ks Ln : Nat} {Lx Lm : List Nat} {E : Nat → va_E} {xs : Nat → Int32} {zs : Nat → Int} (C : Cq p s m #[Value.ref b] meth c cL_law ⟨RL, y.name, y.desc⟩ rt G (fun q => s.heap.size ≤ q) 4) (hM : Mir mi s) (hX : va_X b Ln xs s s.heap) (hbl : b < s.heap.size) (hzs : ∀ k, xs k = iI (zs k)) (hz : ∀ k, -2147483648 ≤ zs k ∧ zs k ≤ 2147483647) (hn6 : 6 * n + 6 ≤ Ln) (hLn : Ln ≤ 3072) (hI : LI (REL h0) G h0 mm n n (6500 * n) u Lx Lm E) (hu : 16 * kc + ks ≤ u) (ih : ∀ (L2 L3 : List Nat) (E3 : Nat → va_E) (kc2 ks2 u2 : Nat), LI (REL h0) G h0 mm (n + 1) (n + 1) (6500 * (n + 1)) u2 L2 L3 E3 → 16 * kc2 + ks2 ≤ u2 → wq p l e room_1 s m #[Value.ref b] below meth c G (fun q => s.heap.size ≤ q) 4 (lw_Z below #[Value.ref b] s) (L3 ++ L2) E3 kc2 ks2 18 (LV b h0 mm (n + 1)) []) : wq p l e room_1 s m #[Value.ref b] below meth c G (fun q => s.heap.size ≤ q) 4 (lw_Z below #[Value.ref b] s) (Lm ++ Lx) E kc ks 1196 (LV b h0 mm n) [] := by
  refine q_aload_n (j := 2) C dL_law_1196 rfl ?_
  refine q_ld (j := 1) C hX hbl hzs hn6 hLn (by decide) rfl dL_law_1197 dL_law_1198 dL_law_1199 dL_law_1200 dL_law_1201 ?_
  refine q_ld (j := 2) C hX hbl hzs hn6 hLn (by decide) rfl dL_law_1202 dL_law_1203 dL_law_1204 dL_law_1205 dL_law_1206 ?_
  refine q_ld (j := 3) C hX hbl hzs hn6 hLn (by decide) rfl dL_law_1207 dL_law_1208 dL_law_1209 dL_law_1210 dL_law_1211 ?_
  refine law_press (As := [.int (iI (zs (6 * n + 1))), .int (iI (zs (6 * n + 2))), .int (iI (zs (6 * n + 3)))]) (rest := []) C hM hI (by omega) (by omega) hu (PO_parts (hz _) (hz _) (hz _)) dL_law_1212 kV_L_147 rfl rfl rfl (Nat.le_of_ble_eq_true rfl) ⟨Nat.le_of_ble_eq_true rfl, Nat.le_of_ble_eq_true rfl⟩ (fun f1 L1 E1 kc1 ks1 u1 hf1 hI1 hu1 => ?_)
  refine q_pop C dL_law_1215 rfl ?_
  refine q_aload_n (j := 1) C dL_law_1216 rfl ?_
  refine q_ld (j := 1) C hX hbl hzs hn6 hLn (by decide) rfl dL_law_1217 dL_law_1218 dL_law_1219 dL_law_1220 dL_law_1221 ?_
  refine q_ld (j := 2) C hX hbl hzs hn6 hLn (by decide) rfl dL_law_1222 dL_law_1223 dL_law_1224 dL_law_1225 dL_law_1226 ?_
  refine q_ld (j := 3) C hX hbl hzs hn6 hLn (by decide) rfl dL_law_1227 dL_law_1228 dL_law_1229 dL_law_1230 dL_law_1231 ?_
  refine law_model (As := [.int (iI (zs (6 * n + 1))), .int (iI (zs (6 * n + 2))), .int (iI (zs (6 * n + 3)))]) (rest := []) C hI1 (by omega) (by omega) hu1 (MO_parts (hz _) (hz _) (hz _)) (by decide) dL_law_1232 kV_L_150 rfl rfl rfl (Nat.le_of_ble_eq_true rfl) ⟨Nat.le_of_ble_eq_true rfl, Nat.le_of_ble_eq_true rfl⟩ (fun f2 L2 E2 kc2 ks2 u2 hI2 hu2 => ?_)
  refine q_pop C dL_law_1235 rfl ?_
  refine q_goto (tgt := 1377) C dL_law_1236 (by decide) ?_
  exact law_tail C ((hI2.mono (fun sk iv rv v a ⟨v0, a0, ⟨iv0, rv0, hr, hp⟩, hq⟩ => rel_keep hr hp hq)).le (by omega)) hu2 ih
theorem law_unreadable {p : Program} {l : Launch} {e : Env} {s : State} {m : MethodId} {below : List Frame} {meth : Method} {c : Code} {y : MethodName} {rt : Option FieldType} {G : GT} {b mi h0 mm n u kc ks Ln : Nat} {Lx Lm : List Nat} {E : Nat → va_E} {xs : Nat → Int32} {zs : Nat → Int} (C : Cq p s m #[Value.ref b] meth c cL_law ⟨RL, y.name, y.desc⟩ rt G (fun q => s.heap.size ≤ q) 4) (hM : Mir mi s) (hX : va_X b Ln xs s s.heap) (hbl : b < s.heap.size) (hzs : ∀ k, xs k = iI (zs k)) (hz : ∀ k, -2147483648 ≤ zs k ∧ zs k ≤ 2147483647) (hn6 : 6 * n + 6 ≤ Ln) (hLn : Ln ≤ 3072) (hI : LI (REL h0) G h0 mm n n (6500 * n) u Lx Lm E) (hu : 16 * kc + ks ≤ u) (ih : ∀ (L2 L3 : List Nat) (E3 : Nat → va_E) (kc2 ks2 u2 : Nat), LI (REL h0) G h0 mm (n + 1) (n + 1) (6500 * (n + 1)) u2 L2 L3 E3 → 16 * kc2 + ks2 ≤ u2 → wq p l e room_1 s m #[Value.ref b] below meth c G (fun q => s.heap.size ≤ q) 4 (lw_Z below #[Value.ref b] s) (L3 ++ L2) E3 kc2 ks2 18 (LV b h0 mm (n + 1)) []) : wq p l e room_1 s m #[Value.ref b] below meth c G (fun q => s.heap.size ≤ q) 4 (lw_Z below #[Value.ref b] s) (Lm ++ Lx) E kc ks 1239 (LV b h0 mm n) [] := by
  refine q_aload_n (j := 2) C dL_law_1239 rfl ?_
  refine q_ld (j := 1) C hX hbl hzs hn6 hLn (by decide) rfl dL_law_1240 dL_law_1241 dL_law_1242 dL_law_1243 dL_law_1244 ?_
  refine q_ld (j := 2) C hX hbl hzs hn6 hLn (by decide) rfl dL_law_1245 dL_law_1246 dL_law_1247 dL_law_1248 dL_law_1249 ?_
  refine q_ld (j := 3) C hX hbl hzs hn6 hLn (by decide) rfl dL_law_1250 dL_law_1251 dL_law_1252 dL_law_1253 dL_law_1254 ?_
  refine law_press (As := [.int (iI (zs (6 * n + 1))), .int (iI (zs (6 * n + 2))), .int (iI (zs (6 * n + 3)))]) (rest := []) C hM hI (by omega) (by omega) hu (PO_unreadable (hz _) (hz _) (hz _)) dL_law_1255 kV_L_151 rfl rfl rfl (Nat.le_of_ble_eq_true rfl) ⟨Nat.le_of_ble_eq_true rfl, Nat.le_of_ble_eq_true rfl⟩ (fun f1 L1 E1 kc1 ks1 u1 hf1 hI1 hu1 => ?_)
  refine q_pop C dL_law_1258 rfl ?_
  refine q_aload_n (j := 1) C dL_law_1259 rfl ?_
  refine q_ld (j := 1) C hX hbl hzs hn6 hLn (by decide) rfl dL_law_1260 dL_law_1261 dL_law_1262 dL_law_1263 dL_law_1264 ?_
  refine q_ld (j := 2) C hX hbl hzs hn6 hLn (by decide) rfl dL_law_1265 dL_law_1266 dL_law_1267 dL_law_1268 dL_law_1269 ?_
  refine q_ld (j := 3) C hX hbl hzs hn6 hLn (by decide) rfl dL_law_1270 dL_law_1271 dL_law_1272 dL_law_1273 dL_law_1274 ?_
  refine law_model (As := [.int (iI (zs (6 * n + 1))), .int (iI (zs (6 * n + 2))), .int (iI (zs (6 * n + 3)))]) (rest := []) C hI1 (by omega) (by omega) hu1 (MO_unreadable (hz _) (hz _) (hz _)) (by decide) dL_law_1275 kV_L_154 rfl rfl rfl (Nat.le_of_ble_eq_true rfl) ⟨Nat.le_of_ble_eq_true rfl, Nat.le_of_ble_eq_true rfl⟩ (fun f2 L2 E2 kc2 ks2 u2 hI2 hu2 => ?_)
  refine q_pop C dL_law_1278 rfl ?_
  refine q_goto (tgt := 1377) C dL_law_1279 (by decide) ?_
  exact law_tail C ((hI2.mono (fun sk iv rv v a ⟨v0, a0, ⟨iv0, rv0, hr, hp⟩, hq⟩ => rel_keep hr hp hq)).le (by omega)) hu2 ih
theorem law_saved {p : Program} {l : Launch} {e : Env} {s : State} {m : MethodId} {below : List Frame} {meth : Method} {c : Code} {y : MethodName} {rt : Option FieldType} {G : GT} {b mi h0 mm n u kc ks Ln : Nat} {Lx Lm : List Nat} {E : Nat → va_E} {xs : Nat → Int32} {zs : Nat → Int} (C : Cq p s m #[Value.ref b] meth c cL_law ⟨RL, y.name, y.desc⟩ rt G (fun q => s.heap.size ≤ q) 4) (hM : Mir mi s) (hX : va_X b Ln xs s s.heap) (hbl : b < s.heap.size) (hzs : ∀ k, xs k = iI (zs k)) (hz : ∀ k, -2147483648 ≤ zs k ∧ zs k ≤ 2147483647) (hn6 : 6 * n + 6 ≤ Ln) (hLn : Ln ≤ 3072) (hI : LI (REL h0) G h0 mm n n (6500 * n) u Lx Lm E) (hu : 16 * kc + ks ≤ u) (ih : ∀ (L2 L3 : List Nat) (E3 : Nat → va_E) (kc2 ks2 u2 : Nat), LI (REL h0) G h0 mm (n + 1) (n + 1) (6500 * (n + 1)) u2 L2 L3 E3 → 16 * kc2 + ks2 ≤ u2 → wq p l e room_1 s m #[Value.ref b] below meth c G (fun q => s.heap.size ≤ q) 4 (lw_Z below #[Value.ref b] s) (L3 ++ L2) E3 kc2 ks2 18 (LV b h0 mm (n + 1)) []) : wq p l e room_1 s m #[Value.ref b] below meth c G (fun q => s.heap.size ≤ q) 4 (lw_Z below #[Value.ref b] s) (Lm ++ Lx) E kc ks 1282 (LV b h0 mm n) [] := by
  refine q_aload_n (j := 2) C dL_law_1282 rfl ?_
  refine q_ld (j := 1) C hX hbl hzs hn6 hLn (by decide) rfl dL_law_1283 dL_law_1284 dL_law_1285 dL_law_1286 dL_law_1287 ?_
  refine q_ld (j := 2) C hX hbl hzs hn6 hLn (by decide) rfl dL_law_1288 dL_law_1289 dL_law_1290 dL_law_1291 dL_law_1292 ?_
  refine law_press (As := [.int (iI (zs (6 * n + 1))), .int (iI (zs (6 * n + 2)))]) (rest := []) C hM hI (by omega) (by omega) hu (PO_saved (hz _) (hz _)) dL_law_1293 kV_L_155 rfl rfl rfl (Nat.le_of_ble_eq_true rfl) ⟨Nat.le_of_ble_eq_true rfl, Nat.le_of_ble_eq_true rfl⟩ (fun f1 L1 E1 kc1 ks1 u1 hf1 hI1 hu1 => ?_)
  refine q_pop C dL_law_1296 rfl ?_
  refine q_aload_n (j := 1) C dL_law_1297 rfl ?_
  refine q_ld (j := 1) C hX hbl hzs hn6 hLn (by decide) rfl dL_law_1298 dL_law_1299 dL_law_1300 dL_law_1301 dL_law_1302 ?_
  refine q_ld (j := 2) C hX hbl hzs hn6 hLn (by decide) rfl dL_law_1303 dL_law_1304 dL_law_1305 dL_law_1306 dL_law_1307 ?_
  refine law_model (As := [.int (iI (zs (6 * n + 1))), .int (iI (zs (6 * n + 2)))]) (rest := []) C hI1 (by omega) (by omega) hu1 (MO_saved (hz _) (hz _)) (by decide) dL_law_1308 kV_L_158 rfl rfl rfl (Nat.le_of_ble_eq_true rfl) ⟨Nat.le_of_ble_eq_true rfl, Nat.le_of_ble_eq_true rfl⟩ (fun f2 L2 E2 kc2 ks2 u2 hI2 hu2 => ?_)
  refine q_pop C dL_law_1311 rfl ?_
  refine q_goto (tgt := 1377) C dL_law_1312 (by decide) ?_
  exact law_tail C ((hI2.mono (fun sk iv rv v a ⟨v0, a0, ⟨iv0, rv0, hr, hp⟩, hq⟩ => rel_keep hr hp hq)).le (by omega)) hu2 ih
theorem law_place {p : Program} {l : Launch} {e : Env} {s : State} {m : MethodId} {below : List Frame} {meth : Method} {c : Code} {y : MethodName} {rt : Option FieldType} {G : GT} {b mi h0 mm n u kc ks Ln : Nat} {Lx Lm : List Nat} {E : Nat → va_E} {xs : Nat → Int32} {zs : Nat → Int} (C : Cq p s m #[Value.ref b] meth c cL_law ⟨RL, y.name, y.desc⟩ rt G (fun q => s.heap.size ≤ q) 4) (hM : Mir mi s) (hX : va_X b Ln xs s s.heap) (hbl : b < s.heap.size) (hzs : ∀ k, xs k = iI (zs k)) (hz : ∀ k, -2147483648 ≤ zs k ∧ zs k ≤ 2147483647) (hn6 : 6 * n + 6 ≤ Ln) (hLn : Ln ≤ 3072) (hI : LI (REL h0) G h0 mm n n (6500 * n) u Lx Lm E) (hu : 16 * kc + ks ≤ u) (ih : ∀ (L2 L3 : List Nat) (E3 : Nat → va_E) (kc2 ks2 u2 : Nat), LI (REL h0) G h0 mm (n + 1) (n + 1) (6500 * (n + 1)) u2 L2 L3 E3 → 16 * kc2 + ks2 ≤ u2 → wq p l e room_1 s m #[Value.ref b] below meth c G (fun q => s.heap.size ≤ q) 4 (lw_Z below #[Value.ref b] s) (L3 ++ L2) E3 kc2 ks2 18 (LV b h0 mm (n + 1)) []) : wq p l e room_1 s m #[Value.ref b] below meth c G (fun q => s.heap.size ≤ q) 4 (lw_Z below #[Value.ref b] s) (Lm ++ Lx) E kc ks 1315 (LV b h0 mm n) [] := by
  refine q_aload_n (j := 2) C dL_law_1315 rfl ?_
  refine law_press (As := []) (rest := []) C hM hI (by omega) (by omega) hu (PO_place ) dL_law_1316 kV_L_159 rfl rfl rfl (Nat.le_of_ble_eq_true rfl) ⟨Nat.le_of_ble_eq_true rfl, Nat.le_of_ble_eq_true rfl⟩ (fun f1 L1 E1 kc1 ks1 u1 hf1 hI1 hu1 => ?_)
  refine q_pop C dL_law_1319 rfl ?_
  refine q_aload_n (j := 1) C dL_law_1320 rfl ?_
  refine law_model (As := []) (rest := []) C hI1 (by omega) (by omega) hu1 (MO_place ) (by decide) dL_law_1321 kV_L_162 rfl rfl rfl (Nat.le_of_ble_eq_true rfl) ⟨Nat.le_of_ble_eq_true rfl, Nat.le_of_ble_eq_true rfl⟩ (fun f2 L2 E2 kc2 ks2 u2 hI2 hu2 => ?_)
  refine q_pop C dL_law_1324 rfl ?_
  refine q_goto (tgt := 1377) C dL_law_1325 (by decide) ?_
  exact law_tail C ((hI2.mono (fun sk iv rv v a ⟨v0, a0, ⟨iv0, rv0, hr, hp⟩, hq⟩ => rel_keep hr hp hq)).le (by omega)) hu2 ih
theorem law_finds {p : Program} {l : Launch} {e : Env} {s : State} {m : MethodId} {below : List Frame} {meth : Method} {c : Code} {y : MethodName} {rt : Option FieldType} {G : GT} {b mi h0 mm n u kc ks Ln : Nat} {Lx Lm : List Nat} {E : Nat → va_E} {xs : Nat → Int32} {zs : Nat → Int} (C : Cq p s m #[Value.ref b] meth c cL_law ⟨RL, y.name, y.desc⟩ rt G (fun q => s.heap.size ≤ q) 4) (hM : Mir mi s) (hX : va_X b Ln xs s s.heap) (hbl : b < s.heap.size) (hzs : ∀ k, xs k = iI (zs k)) (hz : ∀ k, -2147483648 ≤ zs k ∧ zs k ≤ 2147483647) (hn6 : 6 * n + 6 ≤ Ln) (hLn : Ln ≤ 3072) (hI : LI (REL h0) G h0 mm n n (6500 * n) u Lx Lm E) (hu : 16 * kc + ks ≤ u) (ih : ∀ (L2 L3 : List Nat) (E3 : Nat → va_E) (kc2 ks2 u2 : Nat), LI (REL h0) G h0 mm (n + 1) (n + 1) (6500 * (n + 1)) u2 L2 L3 E3 → 16 * kc2 + ks2 ≤ u2 → wq p l e room_1 s m #[Value.ref b] below meth c G (fun q => s.heap.size ≤ q) 4 (lw_Z below #[Value.ref b] s) (L3 ++ L2) E3 kc2 ks2 18 (LV b h0 mm (n + 1)) []) : wq p l e room_1 s m #[Value.ref b] below meth c G (fun q => s.heap.size ≤ q) 4 (lw_Z below #[Value.ref b] s) (Lm ++ Lx) E kc ks 1328 (LV b h0 mm n) [] := by
  refine q_aload_n (j := 2) C dL_law_1328 rfl ?_
  refine q_ld (j := 1) C hX hbl hzs hn6 hLn (by decide) rfl dL_law_1329 dL_law_1330 dL_law_1331 dL_law_1332 dL_law_1333 ?_
  refine law_press (As := [.int (iI (zs (6 * n + 1)))]) (rest := []) C hM hI (by omega) (by omega) hu (PO_finds (hz _)) dL_law_1334 kV_L_163 rfl rfl rfl (Nat.le_of_ble_eq_true rfl) ⟨Nat.le_of_ble_eq_true rfl, Nat.le_of_ble_eq_true rfl⟩ (fun f1 L1 E1 kc1 ks1 u1 hf1 hI1 hu1 => ?_)
  refine q_pop C dL_law_1337 rfl ?_
  refine q_aload_n (j := 1) C dL_law_1338 rfl ?_
  refine q_ld (j := 1) C hX hbl hzs hn6 hLn (by decide) rfl dL_law_1339 dL_law_1340 dL_law_1341 dL_law_1342 dL_law_1343 ?_
  refine law_model (As := [.int (iI (zs (6 * n + 1)))]) (rest := []) C hI1 (by omega) (by omega) hu1 (MO_finds (hz _)) (by decide) dL_law_1344 kV_L_166 rfl rfl rfl (Nat.le_of_ble_eq_true rfl) ⟨Nat.le_of_ble_eq_true rfl, Nat.le_of_ble_eq_true rfl⟩ (fun f2 L2 E2 kc2 ks2 u2 hI2 hu2 => ?_)
  refine q_pop C dL_law_1347 rfl ?_
  refine q_goto (tgt := 1377) C dL_law_1348 (by decide) ?_
  exact law_tail C ((hI2.mono (fun sk iv rv v a ⟨v0, a0, ⟨iv0, rv0, hr, hp⟩, hq⟩ => rel_keep hr hp hq)).le (by omega)) hu2 ih
theorem law_status {p : Program} {l : Launch} {e : Env} {s : State} {m : MethodId} {below : List Frame} {meth : Method} {c : Code} {y : MethodName} {rt : Option FieldType} {G : GT} {b mi h0 mm n u kc ks Ln : Nat} {Lx Lm : List Nat} {E : Nat → va_E} {xs : Nat → Int32} {zs : Nat → Int} (C : Cq p s m #[Value.ref b] meth c cL_law ⟨RL, y.name, y.desc⟩ rt G (fun q => s.heap.size ≤ q) 4) (hM : Mir mi s) (hX : va_X b Ln xs s s.heap) (hbl : b < s.heap.size) (hzs : ∀ k, xs k = iI (zs k)) (hz : ∀ k, -2147483648 ≤ zs k ∧ zs k ≤ 2147483647) (hn6 : 6 * n + 6 ≤ Ln) (hLn : Ln ≤ 3072) (hI : LI (REL h0) G h0 mm n n (6500 * n) u Lx Lm E) (hu : 16 * kc + ks ≤ u) (ih : ∀ (L2 L3 : List Nat) (E3 : Nat → va_E) (kc2 ks2 u2 : Nat), LI (REL h0) G h0 mm (n + 1) (n + 1) (6500 * (n + 1)) u2 L2 L3 E3 → 16 * kc2 + ks2 ≤ u2 → wq p l e room_1 s m #[Value.ref b] below meth c G (fun q => s.heap.size ≤ q) 4 (lw_Z below #[Value.ref b] s) (L3 ++ L2) E3 kc2 ks2 18 (LV b h0 mm (n + 1)) []) : wq p l e room_1 s m #[Value.ref b] below meth c G (fun q => s.heap.size ≤ q) 4 (lw_Z below #[Value.ref b] s) (Lm ++ Lx) E kc ks 1351 (LV b h0 mm n) [] := by
  refine q_aload_n (j := 2) C dL_law_1351 rfl ?_
  refine law_press (As := []) (rest := []) C hM hI (by omega) (by omega) hu (PO_status ) dL_law_1352 kV_L_167 rfl rfl rfl (Nat.le_of_ble_eq_true rfl) ⟨Nat.le_of_ble_eq_true rfl, Nat.le_of_ble_eq_true rfl⟩ (fun f1 L1 E1 kc1 ks1 u1 hf1 hI1 hu1 => ?_)
  refine q_pop C dL_law_1355 rfl ?_
  refine q_aload_n (j := 1) C dL_law_1356 rfl ?_
  refine law_model (As := []) (rest := []) C hI1 (by omega) (by omega) hu1 (MO_status ) (by decide) dL_law_1357 kV_L_170 rfl rfl rfl (Nat.le_of_ble_eq_true rfl) ⟨Nat.le_of_ble_eq_true rfl, Nat.le_of_ble_eq_true rfl⟩ (fun f2 L2 E2 kc2 ks2 u2 hI2 hu2 => ?_)
  refine q_pop C dL_law_1360 rfl ?_
  refine q_goto (tgt := 1377) C dL_law_1361 (by decide) ?_
  exact law_tail C ((hI2.mono (fun sk iv rv v a ⟨v0, a0, ⟨iv0, rv0, hr, hp⟩, hq⟩ => rel_keep hr hp hq)).le (by omega)) hu2 ih
theorem law_digest {p : Program} {l : Launch} {e : Env} {s : State} {m : MethodId} {below : List Frame} {meth : Method} {c : Code} {y : MethodName} {rt : Option FieldType} {G : GT} {b mi h0 mm n u kc ks Ln : Nat} {Lx Lm : List Nat} {E : Nat → va_E} {xs : Nat → Int32} {zs : Nat → Int} (C : Cq p s m #[Value.ref b] meth c cL_law ⟨RL, y.name, y.desc⟩ rt G (fun q => s.heap.size ≤ q) 4) (hM : Mir mi s) (hX : va_X b Ln xs s s.heap) (hbl : b < s.heap.size) (hzs : ∀ k, xs k = iI (zs k)) (hz : ∀ k, -2147483648 ≤ zs k ∧ zs k ≤ 2147483647) (hn6 : 6 * n + 6 ≤ Ln) (hLn : Ln ≤ 3072) (hI : LI (REL h0) G h0 mm n n (6500 * n) u Lx Lm E) (hu : 16 * kc + ks ≤ u) (ih : ∀ (L2 L3 : List Nat) (E3 : Nat → va_E) (kc2 ks2 u2 : Nat), LI (REL h0) G h0 mm (n + 1) (n + 1) (6500 * (n + 1)) u2 L2 L3 E3 → 16 * kc2 + ks2 ≤ u2 → wq p l e room_1 s m #[Value.ref b] below meth c G (fun q => s.heap.size ≤ q) 4 (lw_Z below #[Value.ref b] s) (L3 ++ L2) E3 kc2 ks2 18 (LV b h0 mm (n + 1)) []) : wq p l e room_1 s m #[Value.ref b] below meth c G (fun q => s.heap.size ≤ q) 4 (lw_Z below #[Value.ref b] s) (Lm ++ Lx) E kc ks 1364 (LV b h0 mm n) [] := by
  refine q_aload_n (j := 2) C dL_law_1364 rfl ?_
  refine law_press (As := []) (rest := []) C hM hI (by omega) (by omega) hu (PO_digest ) dL_law_1365 kV_L_171 rfl rfl rfl (Nat.le_of_ble_eq_true rfl) ⟨Nat.le_of_ble_eq_true rfl, Nat.le_of_ble_eq_true rfl⟩ (fun f1 L1 E1 kc1 ks1 u1 hf1 hI1 hu1 => ?_)
  refine q_pop C dL_law_1368 rfl ?_
  refine q_aload_n (j := 1) C dL_law_1369 rfl ?_
  refine law_model (As := []) (rest := []) C hI1 (by omega) (by omega) hu1 (MO_digest ) (by decide) dL_law_1370 kV_L_174 rfl rfl rfl (Nat.le_of_ble_eq_true rfl) ⟨Nat.le_of_ble_eq_true rfl, Nat.le_of_ble_eq_true rfl⟩ (fun f2 L2 E2 kc2 ks2 u2 hI2 hu2 => ?_)
  refine q_pop C dL_law_1373 rfl ?_
  refine q_goto (tgt := 1377) C dL_law_1374 (by decide) ?_
  exact law_tail C ((hI2.mono (fun sk iv rv v a ⟨v0, a0, ⟨iv0, rv0, hr, hp⟩, hq⟩ => rel_keep hr hp hq)).le (by omega)) hu2 ih
