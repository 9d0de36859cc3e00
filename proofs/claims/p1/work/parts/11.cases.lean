set_option maxHeartbeats 4000000 in
set_option maxRecDepth 100000 in
theorem law_feed {p : Program} {l : Launch} {e : Env} {s : State} {m : MethodId} {below : List Frame} {meth : Method} {c : Code} {y : MethodName} {rt : Option FieldType} {G : GT} {b : Nat} {xs : Nat → Int32} (C : Cq p s m #[Value.ref b] meth c cL_law ⟨RL, y.name, y.desc⟩ rt G (fun q => s.heap.size ≤ q) 4) (hr : meth.sig.returnType = ret) (hlk : meth.locks = false) (hX : va_X b 6 xs s s.heap) (hbl : b < s.heap.size) {Lx Lm : List Nat} {E : Nat → va_E} {h0 tp qt : Nat} {f ft fh : Nat → Value} (hL : h0 ∈ Lx) (hE : E h0 = ob 12 19 f) (f0 : f 0 = .ref tp) (hLtp : tp ∈ Lx) (hEtp : E tp = ob 2 3 ft) (ft0 : ft 0 = .int 3000) (ft1 : ft 1 = .ref qt) (ft2 : ft 2 = .int 0) (hLqt : qt ∈ Lx) (hEqt : E qt = aI G 16 (fun _ => 0)) (fh2 : fh 2 = .int 0) {mm ma2 : Nat} {mf : Nat → Value} (mhL : mm ∈ Lm) (mhE : E mm = ob 13 67 mf) (mf3 : mf 3 = .int 0) (mf2 : mf 2 = .ref ma2) (mhL2 : ma2 ∈ Lm) (mhE2 : E ma2 = aI G 3000 (fun _ => 0)) (mn2 : mm ≠ ma2) : wq p l e room_1 s m #[Value.ref b] below meth c G (fun q => s.heap.size ≤ q) 4 (lw_Z below #[Value.ref b] s) (Lm ++ Lx) E 89 353657 204 [(3, .int 0), (2, .ref mm), (1, .ref h0), (0, .ref b)] [] := by
  have hbA : ¬ (fun q : Nat => s.heap.size ≤ q) b := Nat.not_le.mpr hbl
  refine q_aload_n (j := 2) C dL_law_204 rfl ?_
  refine q_aload_n (j := 3) C dL_law_205 rfl ?_
  refine q_iload_n (j := 0) C dL_law_206 rfl ?_
  refine q_iconst (v := 1) C dL_law_207 (by decide) ?_
  refine q_iadd (v := 1) C dL_law_208 (by decide) ?_
  refine q_sld (v := (xs 1)) C hX hbl hbA dL_law_209 (by unfold vp_in; decide) rfl ?_
  refine q_aload_n (j := 3) C dL_law_210 rfl ?_
  refine q_iload_n (j := 0) C dL_law_211 rfl ?_
  refine q_iconst (v := 2) C dL_law_212 (by decide) ?_
  refine q_iadd (v := 2) C dL_law_213 (by decide) ?_
  refine q_sld (v := (xs 2)) C hX hbl hbA dL_law_214 (by unfold vp_in; decide) rfl ?_
  refine q_aload_n (j := 3) C dL_law_215 rfl ?_
  refine q_iload_n (j := 0) C dL_law_216 rfl ?_
  refine q_iconst (v := 3) C dL_law_217 (by decide) ?_
  refine q_iadd (v := 3) C dL_law_218 (by decide) ?_
  refine q_sld (v := (xs 3)) C hX hbl hbA dL_law_219 (by unfold vp_in; decide) rfl ?_
  refine q_aload_n (j := 3) C dL_law_220 rfl ?_
  refine q_iload_n (j := 0) C dL_law_221 rfl ?_
  refine q_iconst (v := 4) C dL_law_222 (by decide) ?_
  refine q_iadd (v := 4) C dL_law_223 (by decide) ?_
  refine q_sld (v := (xs 4)) C hX hbl hbA dL_law_224 (by unfold vp_in; decide) rfl ?_
  refine q_aload_n (j := 3) C dL_law_225 rfl ?_
  refine q_iload_n (j := 0) C dL_law_226 rfl ?_
  refine q_iconst (v := 5) C dL_law_227 (by decide) ?_
  refine q_iadd (v := 5) C dL_law_228 (by decide) ?_
  refine q_sld (v := (xs 5)) C hX hbl hbA dL_law_229 (by unfold vp_in; decide) rfl ?_
  refine q_subV (d2 := 6) (mc2 := 1) (ms2 := 32) (As := [.int (xs 1), .int (xs 2), .int (xs 3), .int (xs 4), .int (xs 5)]) (rest := []) C (x_feed (xs 1) (xs 2) (xs 3) (xs 4) (xs 5) hL hE f0 hLtp hEtp ft0 ft1 ft2 hLqt hEqt fh2) dL_law_230 kV_L_13 rfl hL hE ck_12 rfl (Nat.le_of_ble_eq_true rfl) ⟨Nat.le_of_ble_eq_true rfl, Nat.le_of_ble_eq_true rfl⟩ ⟨Nat.le_of_ble_eq_true rfl, Nat.le_of_ble_eq_true rfl⟩ (fun vh1 Lh1 Eh1 Dh1 h1 h1a h1b h1c => ?_)
  subst h1
  refine q_st (st2 := [.int 20]) rfl ?_
  refine q_aload_n (j := 1) C dL_law_233 rfl ?_
  refine q_aload_n (j := 3) C dL_law_234 rfl ?_
  refine q_iload_n (j := 0) C dL_law_235 rfl ?_
  refine q_iconst (v := 1) C dL_law_236 (by decide) ?_
  refine q_iadd (v := 1) C dL_law_237 (by decide) ?_
  refine q_sld (v := (xs 1)) C hX hbl hbA dL_law_238 (by unfold vp_in; decide) rfl ?_
  refine q_aload_n (j := 3) C dL_law_239 rfl ?_
  refine q_iload_n (j := 0) C dL_law_240 rfl ?_
  refine q_iconst (v := 2) C dL_law_241 (by decide) ?_
  refine q_iadd (v := 2) C dL_law_242 (by decide) ?_
  refine q_sld (v := (xs 2)) C hX hbl hbA dL_law_243 (by unfold vp_in; decide) rfl ?_
  refine q_aload_n (j := 3) C dL_law_244 rfl ?_
  refine q_iload_n (j := 0) C dL_law_245 rfl ?_
  refine q_iconst (v := 3) C dL_law_246 (by decide) ?_
  refine q_iadd (v := 3) C dL_law_247 (by decide) ?_
  refine q_sld (v := (xs 3)) C hX hbl hbA dL_law_248 (by unfold vp_in; decide) rfl ?_
  refine q_aload_n (j := 3) C dL_law_249 rfl ?_
  refine q_iload_n (j := 0) C dL_law_250 rfl ?_
  refine q_iconst (v := 4) C dL_law_251 (by decide) ?_
  refine q_iadd (v := 4) C dL_law_252 (by decide) ?_
  refine q_sld (v := (xs 4)) C hX hbl hbA dL_law_253 (by unfold vp_in; decide) rfl ?_
  refine q_aload_n (j := 3) C dL_law_254 rfl ?_
  refine q_iload_n (j := 0) C dL_law_255 rfl ?_
  refine q_iconst (v := 5) C dL_law_256 (by decide) ?_
  refine q_iadd (v := 5) C dL_law_257 (by decide) ?_
  refine q_sld (v := (xs 5)) C hX hbl hbA dL_law_258 (by unfold vp_in; decide) rfl ?_
  refine q_callV (d2 := 4) (mc2 := 0) (ms2 := 0) (As := [.int (xs 1), .int (xs 2), .int (xs 3), .int (xs 4), .int (xs 5)]) (rest := [.int 20]) C (m_feed (xs 1) (xs 2) (xs 3) (xs 4) (xs 5) (List.mem_append_left _ mhL) ((h1a _ mhL).trans mhE) mf3 mf2 (List.mem_append_left _ mhL2) ((h1a _ mhL2).trans mhE2) mn2) dL_law_259 kV_L_17 rfl (List.mem_append_left _ mhL) ((h1a _ mhL).trans mhE) ck_13 rfl (Nat.le_of_ble_eq_true rfl) ⟨Nat.le_of_ble_eq_true rfl, Nat.le_of_ble_eq_true rfl⟩ ⟨Nat.le_of_ble_eq_true rfl, Nat.le_of_ble_eq_true rfl⟩ (fun vh2 Lh2 Eh2 h2 => ?_)
  subst h2
  refine q_st (st2 := [.int 20, .int 20]) rfl ?_
  refine q_icmp_eq (tgt := 1377) C dL_law_262 (by decide) (fun _ => ?_) (fun z => absurd rfl z)
  exact law_tail C hr hlk hX hbl (Nat.le_of_ble_eq_true rfl) (Nat.le_of_ble_eq_true rfl)
set_option maxHeartbeats 4000000 in
set_option maxRecDepth 100000 in
theorem law_end {p : Program} {l : Launch} {e : Env} {s : State} {m : MethodId} {below : List Frame} {meth : Method} {c : Code} {y : MethodName} {rt : Option FieldType} {G : GT} {b : Nat} {xs : Nat → Int32} (C : Cq p s m #[Value.ref b] meth c cL_law ⟨RL, y.name, y.desc⟩ rt G (fun q => s.heap.size ≤ q) 4) (hr : meth.sig.returnType = ret) (hlk : meth.locks = false) (hX : va_X b 6 xs s s.heap) (hbl : b < s.heap.size) {Lx Lm : List Nat} {E : Nat → va_E} {h0 tp : Nat} {f ft : Nat → Value} (hL : h0 ∈ Lx) (hE : E h0 = ob 12 19 f) (f0 : f 0 = .ref tp) (hLtp : tp ∈ Lx) (hEtp : E tp = ob 2 3 ft) (ft2 : ft 2 = .int 0) {mm : Nat} {mf : Nat → Value} (mhL : mm ∈ Lm) (mhE : E mm = ob 13 67 mf) (mf3 : mf 3 = .int 0) : wq p l e room_1 s m #[Value.ref b] below meth c G (fun q => s.heap.size ≤ q) 4 (lw_Z below #[Value.ref b] s) (Lm ++ Lx) E 89 353657 267 [(3, .int 0), (2, .ref mm), (1, .ref h0), (0, .ref b)] [] := by
  have hbA : ¬ (fun q : Nat => s.heap.size ≤ q) b := Nat.not_le.mpr hbl
  refine q_aload_n (j := 2) C dL_law_267 rfl ?_
  refine q_aload_n (j := 3) C dL_law_268 rfl ?_
  refine q_iload_n (j := 0) C dL_law_269 rfl ?_
  refine q_iconst (v := 1) C dL_law_270 (by decide) ?_
  refine q_iadd (v := 1) C dL_law_271 (by decide) ?_
  refine q_sld (v := (xs 1)) C hX hbl hbA dL_law_272 (by unfold vp_in; decide) rfl ?_
  refine q_subV (d2 := 5) (mc2 := 0) (ms2 := 0) (As := [.int (xs 1)]) (rest := []) C (x_end (xs 1) hL hE f0 hLtp hEtp ft2) dL_law_273 kV_L_18 rfl hL hE ck_12 rfl (Nat.le_of_ble_eq_true rfl) ⟨Nat.le_of_ble_eq_true rfl, Nat.le_of_ble_eq_true rfl⟩ ⟨Nat.le_of_ble_eq_true rfl, Nat.le_of_ble_eq_true rfl⟩ (fun vh1 Lh1 Eh1 Dh1 h1 h1a h1b h1c => ?_)
  subst h1
  refine q_st (st2 := [.int (an_end (xs 1))]) rfl ?_
  refine q_aload_n (j := 1) C dL_law_276 rfl ?_
  refine q_aload_n (j := 3) C dL_law_277 rfl ?_
  refine q_iload_n (j := 0) C dL_law_278 rfl ?_
  refine q_iconst (v := 1) C dL_law_279 (by decide) ?_
  refine q_iadd (v := 1) C dL_law_280 (by decide) ?_
  refine q_sld (v := (xs 1)) C hX hbl hbA dL_law_281 (by unfold vp_in; decide) rfl ?_
  refine q_callV (d2 := 4) (mc2 := 0) (ms2 := 0) (As := [.int (xs 1)]) (rest := [.int (an_end (xs 1))]) C (m_end (xs 1) (List.mem_append_left _ mhL) ((h1a _ mhL).trans mhE) mf3) dL_law_282 kV_L_22 rfl (List.mem_append_left _ mhL) ((h1a _ mhL).trans mhE) ck_13 rfl (Nat.le_of_ble_eq_true rfl) ⟨Nat.le_of_ble_eq_true rfl, Nat.le_of_ble_eq_true rfl⟩ ⟨Nat.le_of_ble_eq_true rfl, Nat.le_of_ble_eq_true rfl⟩ (fun vh2 Lh2 Eh2 h2 => ?_)
  subst h2
  refine q_st (st2 := [.int (an_end (xs 1)), .int (an_end (xs 1))]) rfl ?_
  refine q_icmp_eq (tgt := 1377) C dL_law_285 (by decide) (fun _ => ?_) (fun z => absurd rfl z)
  exact law_tail C hr hlk hX hbl (Nat.le_of_ble_eq_true rfl) (Nat.le_of_ble_eq_true rfl)
set_option maxHeartbeats 4000000 in
set_option maxRecDepth 100000 in
theorem law_table {p : Program} {l : Launch} {e : Env} {s : State} {m : MethodId} {below : List Frame} {meth : Method} {c : Code} {y : MethodName} {rt : Option FieldType} {G : GT} {b : Nat} {xs : Nat → Int32} (C : Cq p s m #[Value.ref b] meth c cL_law ⟨RL, y.name, y.desc⟩ rt G (fun q => s.heap.size ≤ q) 4) (hr : meth.sig.returnType = ret) (hlk : meth.locks = false) (hX : va_X b 6 xs s s.heap) (hbl : b < s.heap.size) {Lx Lm : List Nat} {E : Nat → va_E} {h0 tp qt wr br hd tb md ch wd fi fo sh : Nat} {f ft fw fb fh fT fm fc fd ff fs : Nat → Value} (hL : h0 ∈ Lx) (hE : E h0 = ob 12 19 f) (f4 : f 4 = .ref tb) (hLtp : tp ∈ Lx) (hEtp : E tp = ob 2 3 ft) (hLqt : qt ∈ Lx) (hEqt : E qt = aI G 16 (fun _ => 0)) (hLwr : wr ∈ Lx) (hEwr : E wr = ob 2 3 fw) (hLbr : br ∈ Lx) (hEbr : E br = ob 2 3 fb) (hLhd : hd ∈ Lx) (hEhd : E hd = ob 2 3 fh) (hLtb : tb ∈ Lx) (hEtb : E tb = ob 11 2 fT) (fT0 : fT 0 = .ref md) (fT1 : fT 1 = .ref ch) (hLmd : md ∈ Lx) (hEmd : E md = ob 0 3 fm) (fm0 : fm 0 = .int 0) (fm1 : fm 1 = .ref (g0 G)) (fm2 : fm 2 = .int 0) (hLch : ch ∈ Lx) (hEch : E ch = ob 0 3 fc) (fc0 : fc 0 = .int 0) (fc1 : fc 1 = .ref (g0 G)) (fc2 : fc 2 = .int 0) (hLwd : wd ∈ Lx) (hEwd : E wd = ob 7 12 fd) (hLfi : fi ∈ Lx) (hEfi : E fi = aI G 5 (fun _ => 0)) (hLfo : fo ∈ Lx) (hEfo : E fo = ob 5 11 ff) (hLsh : sh ∈ Lx) (hEsh : E sh = ob 8 3 fs) (nmc : md ≠ ch) {mm ma5 ma6 ma7 ma8 ma9 ma10 ma16 ma18 : Nat} {mf : Nat → Value} (mhL : mm ∈ Lm) (mhE : E mm = ob 13 67 mf) (mf4 : mf 4 = .int 0) (mf19 : mf 19 = .int 0) (mf5 : mf 5 = .ref ma5) (mhL5 : ma5 ∈ Lm) (mhE5 : E ma5 = aZ G 30 (fun _ => 0)) (mf6 : mf 6 = .ref ma6) (mhL6 : ma6 ∈ Lm) (mhE6 : E ma6 = aI G 30 (fun _ => 0)) (mf7 : mf 7 = .ref ma7) (mhL7 : ma7 ∈ Lm) (mhE7 : E ma7 = aI G 30 (fun _ => 0)) (mf8 : mf 8 = .ref ma8) (mhL8 : ma8 ∈ Lm) (mhE8 : E ma8 = aI G 30 (fun _ => 0)) (mf9 : mf 9 = .ref ma9) (mhL9 : ma9 ∈ Lm) (mhE9 : E ma9 = aI G 30 (fun _ => 0)) (mf10 : mf 10 = .ref ma10) (mhL10 : ma10 ∈ Lm) (mhE10 : E ma10 = aI G 30 (fun _ => 0)) (mf16 : mf 16 = .ref ma16) (mhL16 : ma16 ∈ Lm) (mhE16 : E ma16 = aI G 120 (fun _ => 0)) (mf18 : mf 18 = .ref ma18) (mhL18 : ma18 ∈ Lm) (mhE18 : E ma18 = aI G 64 (fun _ => 0)) (mn5 : mm ≠ ma5) (mn6 : mm ≠ ma6) (mn7 : mm ≠ ma7) (mn8 : mm ≠ ma8) (mn9 : mm ≠ ma9) (mn10 : mm ≠ ma10) (mn16 : mm ≠ ma16) (mn18 : mm ≠ ma18) (mn5_6 : ma5 ≠ ma6) (mn5_7 : ma5 ≠ ma7) (mn5_8 : ma5 ≠ ma8) (mn5_9 : ma5 ≠ ma9) (mn5_10 : ma5 ≠ ma10) (mn5_16 : ma5 ≠ ma16) (mn5_18 : ma5 ≠ ma18) (mn6_7 : ma6 ≠ ma7) (mn6_8 : ma6 ≠ ma8) (mn6_9 : ma6 ≠ ma9) (mn6_10 : ma6 ≠ ma10) (mn6_16 : ma6 ≠ ma16) (mn6_18 : ma6 ≠ ma18) (mn7_8 : ma7 ≠ ma8) (mn7_9 : ma7 ≠ ma9) (mn7_10 : ma7 ≠ ma10) (mn7_16 : ma7 ≠ ma16) (mn7_18 : ma7 ≠ ma18) (mn8_9 : ma8 ≠ ma9) (mn8_10 : ma8 ≠ ma10) (mn8_16 : ma8 ≠ ma16) (mn8_18 : ma8 ≠ ma18) (mn9_10 : ma9 ≠ ma10) (mn9_16 : ma9 ≠ ma16) (mn9_18 : ma9 ≠ ma18) (mn10_16 : ma10 ≠ ma16) (mn10_18 : ma10 ≠ ma18) (mn16_18 : ma16 ≠ ma18) : wq p l e room_1 s m #[Value.ref b] below meth c G (fun q => s.heap.size ≤ q) 4 (lw_Z below #[Value.ref b] s) (Lm ++ Lx) E 89 353657 290 [(3, .int 0), (2, .ref mm), (1, .ref h0), (0, .ref b)] [] := by
  have hbA : ¬ (fun q : Nat => s.heap.size ≤ q) b := Nat.not_le.mpr hbl
  refine q_aload_n (j := 2) C dL_law_290 rfl ?_
  refine q_aload_n (j := 3) C dL_law_291 rfl ?_
  refine q_iload_n (j := 0) C dL_law_292 rfl ?_
  refine q_iconst (v := 1) C dL_law_293 (by decide) ?_
  refine q_iadd (v := 1) C dL_law_294 (by decide) ?_
  refine q_sld (v := (xs 1)) C hX hbl hbA dL_law_295 (by unfold vp_in; decide) rfl ?_
  refine q_aload_n (j := 3) C dL_law_296 rfl ?_
  refine q_iload_n (j := 0) C dL_law_297 rfl ?_
  refine q_iconst (v := 2) C dL_law_298 (by decide) ?_
  refine q_iadd (v := 2) C dL_law_299 (by decide) ?_
  refine q_sld (v := (xs 2)) C hX hbl hbA dL_law_300 (by unfold vp_in; decide) rfl ?_
  refine q_aload_n (j := 3) C dL_law_301 rfl ?_
  refine q_iload_n (j := 0) C dL_law_302 rfl ?_
  refine q_iconst (v := 3) C dL_law_303 (by decide) ?_
  refine q_iadd (v := 3) C dL_law_304 (by decide) ?_
  refine q_sld (v := (xs 3)) C hX hbl hbA dL_law_305 (by unfold vp_in; decide) rfl ?_
  refine q_subV (d2 := 7) (mc2 := 8) (ms2 := 58) (As := [.int (xs 1), .int (xs 2), .int (xs 3)]) (rest := []) C (x_table (xs 1) (xs 2) (xs 3) hL hE f4 hLtp hEtp hLqt hEqt hLwr hEwr hLbr hEbr hLhd hEhd hLtb hEtb fT0 fT1 hLmd hEmd fm0 fm1 fm2 hLch hEch fc0 fc1 fc2 hLwd hEwd hLfi hEfi hLfo hEfo hLsh hEsh nmc) dL_law_306 kV_L_23 rfl hL hE ck_12 rfl (Nat.le_of_ble_eq_true rfl) ⟨Nat.le_of_ble_eq_true rfl, Nat.le_of_ble_eq_true rfl⟩ ⟨Nat.le_of_ble_eq_true rfl, Nat.le_of_ble_eq_true rfl⟩ (fun vh1 Lh1 Eh1 Dh1 h1 h1a h1b h1c => ?_)
  subst h1
  refine q_st (st2 := [.int (an_table (xs 1) (xs 2))]) rfl ?_
  refine q_aload_n (j := 1) C dL_law_309 rfl ?_
  refine q_aload_n (j := 3) C dL_law_310 rfl ?_
  refine q_iload_n (j := 0) C dL_law_311 rfl ?_
  refine q_iconst (v := 1) C dL_law_312 (by decide) ?_
  refine q_iadd (v := 1) C dL_law_313 (by decide) ?_
  refine q_sld (v := (xs 1)) C hX hbl hbA dL_law_314 (by unfold vp_in; decide) rfl ?_
  refine q_aload_n (j := 3) C dL_law_315 rfl ?_
  refine q_iload_n (j := 0) C dL_law_316 rfl ?_
  refine q_iconst (v := 2) C dL_law_317 (by decide) ?_
  refine q_iadd (v := 2) C dL_law_318 (by decide) ?_
  refine q_sld (v := (xs 2)) C hX hbl hbA dL_law_319 (by unfold vp_in; decide) rfl ?_
  refine q_aload_n (j := 3) C dL_law_320 rfl ?_
  refine q_iload_n (j := 0) C dL_law_321 rfl ?_
  refine q_iconst (v := 3) C dL_law_322 (by decide) ?_
  refine q_iadd (v := 3) C dL_law_323 (by decide) ?_
  refine q_sld (v := (xs 3)) C hX hbl hbA dL_law_324 (by unfold vp_in; decide) rfl ?_
  refine q_callV (d2 := 4) (mc2 := 0) (ms2 := 0) (As := [.int (xs 1), .int (xs 2), .int (xs 3)]) (rest := [.int (an_table (xs 1) (xs 2))]) C (m_table (xs 1) (xs 2) (xs 3) (List.mem_append_left _ mhL) ((h1a _ mhL).trans mhE) mf4 mf19 mf5 (List.mem_append_left _ mhL5) ((h1a _ mhL5).trans mhE5) mf6 (List.mem_append_left _ mhL6) ((h1a _ mhL6).trans mhE6) mf7 (List.mem_append_left _ mhL7) ((h1a _ mhL7).trans mhE7) mf8 (List.mem_append_left _ mhL8) ((h1a _ mhL8).trans mhE8) mf9 (List.mem_append_left _ mhL9) ((h1a _ mhL9).trans mhE9) mf10 (List.mem_append_left _ mhL10) ((h1a _ mhL10).trans mhE10) mf16 (List.mem_append_left _ mhL16) ((h1a _ mhL16).trans mhE16) mf18 (List.mem_append_left _ mhL18) ((h1a _ mhL18).trans mhE18) mn5 mn6 mn7 mn8 mn9 mn10 mn16 mn18 mn5_6 mn5_7 mn5_8 mn5_9 mn5_10 mn5_16 mn5_18 mn6_7 mn6_8 mn6_9 mn6_10 mn6_16 mn6_18 mn7_8 mn7_9 mn7_10 mn7_16 mn7_18 mn8_9 mn8_10 mn8_16 mn8_18 mn9_10 mn9_16 mn9_18 mn10_16 mn10_18 mn16_18) dL_law_325 kV_L_27 rfl (List.mem_append_left _ mhL) ((h1a _ mhL).trans mhE) ck_13 rfl (Nat.le_of_ble_eq_true rfl) ⟨Nat.le_of_ble_eq_true rfl, Nat.le_of_ble_eq_true rfl⟩ ⟨Nat.le_of_ble_eq_true rfl, Nat.le_of_ble_eq_true rfl⟩ (fun vh2 Lh2 Eh2 h2 => ?_)
  subst h2
  refine q_st (st2 := [.int (an_table (xs 1) (xs 2)), .int (an_table (xs 1) (xs 2))]) rfl ?_
  refine q_icmp_eq (tgt := 1377) C dL_law_328 (by decide) (fun _ => ?_) (fun z => absurd rfl z)
  exact law_tail C hr hlk hX hbl (Nat.le_of_ble_eq_true rfl) (Nat.le_of_ble_eq_true rfl)
set_option maxHeartbeats 4000000 in
set_option maxRecDepth 100000 in
theorem law_join {p : Program} {l : Launch} {e : Env} {s : State} {m : MethodId} {below : List Frame} {meth : Method} {c : Code} {y : MethodName} {rt : Option FieldType} {G : GT} {b : Nat} {xs : Nat → Int32} (C : Cq p s m #[Value.ref b] meth c cL_law ⟨RL, y.name, y.desc⟩ rt G (fun q => s.heap.size ≤ q) 4) (hr : meth.sig.returnType = ret) (hlk : meth.locks = false) (hX : va_X b 6 xs s s.heap) (hbl : b < s.heap.size) {Lx Lm : List Nat} {E : Nat → va_E} {h0 tb md ch : Nat} {f fT fm fc : Nat → Value} (hL : h0 ∈ Lx) (hE : E h0 = ob 12 19 f) (f4 : f 4 = .ref tb) (hLtb : tb ∈ Lx) (hEtb : E tb = ob 11 2 fT) (fT0 : fT 0 = .ref md) (fT1 : fT 1 = .ref ch) (hLmd : md ∈ Lx) (hEmd : E md = ob 0 3 fm) (fm2 : fm 2 = .int 0) (hLch : ch ∈ Lx) (hEch : E ch = ob 0 3 fc) (fc2 : fc 2 = .int 0) {mm : Nat} {mf : Nat → Value} (mhL : mm ∈ Lm) (mhE : E mm = ob 13 67 mf) (mf4 : mf 4 = .int 0) : wq p l e room_1 s m #[Value.ref b] below meth c G (fun q => s.heap.size ≤ q) 4 (lw_Z below #[Value.ref b] s) (Lm ++ Lx) E 89 353657 333 [(3, .int 0), (2, .ref mm), (1, .ref h0), (0, .ref b)] [] := by
  have hbA : ¬ (fun q : Nat => s.heap.size ≤ q) b := Nat.not_le.mpr hbl
  refine q_aload_n (j := 2) C dL_law_333 rfl ?_
  refine q_aload_n (j := 3) C dL_law_334 rfl ?_
  refine q_iload_n (j := 0) C dL_law_335 rfl ?_
  refine q_iconst (v := 1) C dL_law_336 (by decide) ?_
  refine q_iadd (v := 1) C dL_law_337 (by decide) ?_
  refine q_sld (v := (xs 1)) C hX hbl hbA dL_law_338 (by unfold vp_in; decide) rfl ?_
  refine q_aload_n (j := 3) C dL_law_339 rfl ?_
  refine q_iload_n (j := 0) C dL_law_340 rfl ?_
  refine q_iconst (v := 2) C dL_law_341 (by decide) ?_
  refine q_iadd (v := 2) C dL_law_342 (by decide) ?_
  refine q_sld (v := (xs 2)) C hX hbl hbA dL_law_343 (by unfold vp_in; decide) rfl ?_
  refine q_subV (d2 := 5) (mc2 := 0) (ms2 := 0) (As := [.int (xs 1), .int (xs 2)]) (rest := []) C (x_join (xs 1) (xs 2) hL hE f4 hLtb hEtb fT0 fT1 hLmd hEmd fm2 hLch hEch fc2) dL_law_344 kV_L_28 rfl hL hE ck_12 rfl (Nat.le_of_ble_eq_true rfl) ⟨Nat.le_of_ble_eq_true rfl, Nat.le_of_ble_eq_true rfl⟩ ⟨Nat.le_of_ble_eq_true rfl, Nat.le_of_ble_eq_true rfl⟩ (fun vh1 Lh1 Eh1 Dh1 h1 h1a h1b h1c => ?_)
  subst h1
  refine q_st (st2 := [.int (-1)]) rfl ?_
  refine q_aload_n (j := 1) C dL_law_347 rfl ?_
  refine q_aload_n (j := 3) C dL_law_348 rfl ?_
  refine q_iload_n (j := 0) C dL_law_349 rfl ?_
  refine q_iconst (v := 1) C dL_law_350 (by decide) ?_
  refine q_iadd (v := 1) C dL_law_351 (by decide) ?_
  refine q_sld (v := (xs 1)) C hX hbl hbA dL_law_352 (by unfold vp_in; decide) rfl ?_
  refine q_aload_n (j := 3) C dL_law_353 rfl ?_
  refine q_iload_n (j := 0) C dL_law_354 rfl ?_
  refine q_iconst (v := 2) C dL_law_355 (by decide) ?_
  refine q_iadd (v := 2) C dL_law_356 (by decide) ?_
  refine q_sld (v := (xs 2)) C hX hbl hbA dL_law_357 (by unfold vp_in; decide) rfl ?_
  refine q_callV (d2 := 4) (mc2 := 0) (ms2 := 0) (As := [.int (xs 1), .int (xs 2)]) (rest := [.int (-1)]) C (m_join (xs 1) (xs 2) (List.mem_append_left _ mhL) ((h1a _ mhL).trans mhE) mf4) dL_law_358 kV_L_32 rfl (List.mem_append_left _ mhL) ((h1a _ mhL).trans mhE) ck_13 rfl (Nat.le_of_ble_eq_true rfl) ⟨Nat.le_of_ble_eq_true rfl, Nat.le_of_ble_eq_true rfl⟩ ⟨Nat.le_of_ble_eq_true rfl, Nat.le_of_ble_eq_true rfl⟩ (fun vh2 Lh2 Eh2 h2 => ?_)
  subst h2
  refine q_st (st2 := [.int (-1), .int (-1)]) rfl ?_
  refine q_icmp_eq (tgt := 1377) C dL_law_361 (by decide) (fun _ => ?_) (fun z => absurd rfl z)
  exact law_tail C hr hlk hX hbl (Nat.le_of_ble_eq_true rfl) (Nat.le_of_ble_eq_true rfl)
set_option maxHeartbeats 4000000 in
set_option maxRecDepth 100000 in
theorem law_drop {p : Program} {l : Launch} {e : Env} {s : State} {m : MethodId} {below : List Frame} {meth : Method} {c : Code} {y : MethodName} {rt : Option FieldType} {G : GT} {b : Nat} {xs : Nat → Int32} (C : Cq p s m #[Value.ref b] meth c cL_law ⟨RL, y.name, y.desc⟩ rt G (fun q => s.heap.size ≤ q) 4) (hr : meth.sig.returnType = ret) (hlk : meth.locks = false) (hX : va_X b 6 xs s s.heap) (hbl : b < s.heap.size) {Lx Lm : List Nat} {E : Nat → va_E} {h0 tb md ch : Nat} {f fT fm fc : Nat → Value} (hL : h0 ∈ Lx) (hE : E h0 = ob 12 19 f) (f4 : f 4 = .ref tb) (hLtb : tb ∈ Lx) (hEtb : E tb = ob 11 2 fT) (fT0 : fT 0 = .ref md) (fT1 : fT 1 = .ref ch) (hLmd : md ∈ Lx) (hEmd : E md = ob 0 3 fm) (fm2 : fm 2 = .int 0) (hLch : ch ∈ Lx) (hEch : E ch = ob 0 3 fc) (fc2 : fc 2 = .int 0) {mm : Nat} {mf : Nat → Value} (mhL : mm ∈ Lm) (mhE : E mm = ob 13 67 mf) (mf4 : mf 4 = .int 0) : wq p l e room_1 s m #[Value.ref b] below meth c G (fun q => s.heap.size ≤ q) 4 (lw_Z below #[Value.ref b] s) (Lm ++ Lx) E 89 353657 366 [(3, .int 0), (2, .ref mm), (1, .ref h0), (0, .ref b)] [] := by
  have hbA : ¬ (fun q : Nat => s.heap.size ≤ q) b := Nat.not_le.mpr hbl
  refine q_aload_n (j := 2) C dL_law_366 rfl ?_
  refine q_aload_n (j := 3) C dL_law_367 rfl ?_
  refine q_iload_n (j := 0) C dL_law_368 rfl ?_
  refine q_iconst (v := 1) C dL_law_369 (by decide) ?_
  refine q_iadd (v := 1) C dL_law_370 (by decide) ?_
  refine q_sld (v := (xs 1)) C hX hbl hbA dL_law_371 (by unfold vp_in; decide) rfl ?_
  refine q_subV (d2 := 5) (mc2 := 0) (ms2 := 0) (As := [.int (xs 1)]) (rest := []) C (x_drop (xs 1) hL hE f4 hLtb hEtb fT0 fT1 hLmd hEmd fm2 hLch hEch fc2) dL_law_372 kV_L_33 rfl hL hE ck_12 rfl (Nat.le_of_ble_eq_true rfl) ⟨Nat.le_of_ble_eq_true rfl, Nat.le_of_ble_eq_true rfl⟩ ⟨Nat.le_of_ble_eq_true rfl, Nat.le_of_ble_eq_true rfl⟩ (fun vh1 Lh1 Eh1 Dh1 h1 h1a h1b h1c => ?_)
  subst h1
  refine q_st (st2 := [.int (-1)]) rfl ?_
  refine q_aload_n (j := 1) C dL_law_375 rfl ?_
  refine q_aload_n (j := 3) C dL_law_376 rfl ?_
  refine q_iload_n (j := 0) C dL_law_377 rfl ?_
  refine q_iconst (v := 1) C dL_law_378 (by decide) ?_
  refine q_iadd (v := 1) C dL_law_379 (by decide) ?_
  refine q_sld (v := (xs 1)) C hX hbl hbA dL_law_380 (by unfold vp_in; decide) rfl ?_
  refine q_callV (d2 := 4) (mc2 := 0) (ms2 := 0) (As := [.int (xs 1)]) (rest := [.int (-1)]) C (m_drop (xs 1) (List.mem_append_left _ mhL) ((h1a _ mhL).trans mhE) mf4) dL_law_381 kV_L_36 rfl (List.mem_append_left _ mhL) ((h1a _ mhL).trans mhE) ck_13 rfl (Nat.le_of_ble_eq_true rfl) ⟨Nat.le_of_ble_eq_true rfl, Nat.le_of_ble_eq_true rfl⟩ ⟨Nat.le_of_ble_eq_true rfl, Nat.le_of_ble_eq_true rfl⟩ (fun vh2 Lh2 Eh2 h2 => ?_)
  subst h2
  refine q_st (st2 := [.int (-1), .int (-1)]) rfl ?_
  refine q_icmp_eq (tgt := 1377) C dL_law_384 (by decide) (fun _ => ?_) (fun z => absurd rfl z)
  exact law_tail C hr hlk hX hbl (Nat.le_of_ble_eq_true rfl) (Nat.le_of_ble_eq_true rfl)
set_option maxHeartbeats 4000000 in
set_option maxRecDepth 100000 in
theorem law_rule {p : Program} {l : Launch} {e : Env} {s : State} {m : MethodId} {below : List Frame} {meth : Method} {c : Code} {y : MethodName} {rt : Option FieldType} {G : GT} {b : Nat} {xs : Nat → Int32} (C : Cq p s m #[Value.ref b] meth c cL_law ⟨RL, y.name, y.desc⟩ rt G (fun q => s.heap.size ≤ q) 4) (hr : meth.sig.returnType = ret) (hlk : meth.locks = false) (hX : va_X b 6 xs s s.heap) (hbl : b < s.heap.size) {Lx Lm : List Nat} {E : Nat → va_E} {h0 tp tb md ch : Nat} {f ft fT fm fc : Nat → Value} (hL : h0 ∈ Lx) (hE : E h0 = ob 12 19 f) (f0 : f 0 = .ref tp) (f4 : f 4 = .ref tb) (hLtp : tp ∈ Lx) (hEtp : E tp = ob 2 3 ft) (hLtb : tb ∈ Lx) (hEtb : E tb = ob 11 2 fT) (fT0 : fT 0 = .ref md) (fT1 : fT 1 = .ref ch) (hLmd : md ∈ Lx) (hEmd : E md = ob 0 3 fm) (fm2 : fm 2 = .int 0) (hLch : ch ∈ Lx) (hEch : E ch = ob 0 3 fc) (fc2 : fc 2 = .int 0) {mm : Nat} {mf : Nat → Value} (mhL : mm ∈ Lm) (mhE : E mm = ob 13 67 mf) (mf3 : mf 3 = .int 0) (mf4 : mf 4 = .int 0) : wq p l e room_1 s m #[Value.ref b] below meth c G (fun q => s.heap.size ≤ q) 4 (lw_Z below #[Value.ref b] s) (Lm ++ Lx) E 89 353657 389 [(3, .int 0), (2, .ref mm), (1, .ref h0), (0, .ref b)] [] := by
  have hbA : ¬ (fun q : Nat => s.heap.size ≤ q) b := Nat.not_le.mpr hbl
  refine q_aload_n (j := 2) C dL_law_389 rfl ?_
  refine q_aload_n (j := 3) C dL_law_390 rfl ?_
  refine q_iload_n (j := 0) C dL_law_391 rfl ?_
  refine q_iconst (v := 1) C dL_law_392 (by decide) ?_
  refine q_iadd (v := 1) C dL_law_393 (by decide) ?_
  refine q_sld (v := (xs 1)) C hX hbl hbA dL_law_394 (by unfold vp_in; decide) rfl ?_
  refine q_aload_n (j := 3) C dL_law_395 rfl ?_
  refine q_iload_n (j := 0) C dL_law_396 rfl ?_
  refine q_iconst (v := 2) C dL_law_397 (by decide) ?_
  refine q_iadd (v := 2) C dL_law_398 (by decide) ?_
  refine q_sld (v := (xs 2)) C hX hbl hbA dL_law_399 (by unfold vp_in; decide) rfl ?_
  refine q_aload_n (j := 3) C dL_law_400 rfl ?_
  refine q_iload_n (j := 0) C dL_law_401 rfl ?_
  refine q_iconst (v := 3) C dL_law_402 (by decide) ?_
  refine q_iadd (v := 3) C dL_law_403 (by decide) ?_
  refine q_sld (v := (xs 3)) C hX hbl hbA dL_law_404 (by unfold vp_in; decide) rfl ?_
  refine q_subV (d2 := 6) (mc2 := 0) (ms2 := 0) (As := [.int (xs 1), .int (xs 2), .int (xs 3)]) (rest := []) C (x_rule (xs 1) (xs 2) (xs 3) hL hE f0 f4 hLtp hEtp hLtb hEtb fT0 fT1 hLmd hEmd fm2 hLch hEch fc2) dL_law_405 kV_L_37 rfl hL hE ck_12 rfl (Nat.le_of_ble_eq_true rfl) ⟨Nat.le_of_ble_eq_true rfl, Nat.le_of_ble_eq_true rfl⟩ ⟨Nat.le_of_ble_eq_true rfl, Nat.le_of_ble_eq_true rfl⟩ (fun vh1 Lh1 Eh1 Dh1 h1 h1a h1b h1c => ?_)
  subst h1
  refine q_st (st2 := [.int (-1)]) rfl ?_
  refine q_aload_n (j := 1) C dL_law_408 rfl ?_
  refine q_aload_n (j := 3) C dL_law_409 rfl ?_
  refine q_iload_n (j := 0) C dL_law_410 rfl ?_
  refine q_iconst (v := 1) C dL_law_411 (by decide) ?_
  refine q_iadd (v := 1) C dL_law_412 (by decide) ?_
  refine q_sld (v := (xs 1)) C hX hbl hbA dL_law_413 (by unfold vp_in; decide) rfl ?_
  refine q_aload_n (j := 3) C dL_law_414 rfl ?_
  refine q_iload_n (j := 0) C dL_law_415 rfl ?_
  refine q_iconst (v := 2) C dL_law_416 (by decide) ?_
  refine q_iadd (v := 2) C dL_law_417 (by decide) ?_
  refine q_sld (v := (xs 2)) C hX hbl hbA dL_law_418 (by unfold vp_in; decide) rfl ?_
  refine q_aload_n (j := 3) C dL_law_419 rfl ?_
  refine q_iload_n (j := 0) C dL_law_420 rfl ?_
  refine q_iconst (v := 3) C dL_law_421 (by decide) ?_
  refine q_iadd (v := 3) C dL_law_422 (by decide) ?_
  refine q_sld (v := (xs 3)) C hX hbl hbA dL_law_423 (by unfold vp_in; decide) rfl ?_
  refine q_callV (d2 := 4) (mc2 := 0) (ms2 := 0) (As := [.int (xs 1), .int (xs 2), .int (xs 3)]) (rest := [.int (-1)]) C (m_rule (xs 1) (xs 2) (xs 3) (List.mem_append_left _ mhL) ((h1a _ mhL).trans mhE) mf3 mf4) dL_law_424 kV_L_40 rfl (List.mem_append_left _ mhL) ((h1a _ mhL).trans mhE) ck_13 rfl (Nat.le_of_ble_eq_true rfl) ⟨Nat.le_of_ble_eq_true rfl, Nat.le_of_ble_eq_true rfl⟩ ⟨Nat.le_of_ble_eq_true rfl, Nat.le_of_ble_eq_true rfl⟩ (fun vh2 Lh2 Eh2 h2 => ?_)
  subst h2
  refine q_st (st2 := [.int (-1), .int (-1)]) rfl ?_
  refine q_icmp_eq (tgt := 1377) C dL_law_427 (by decide) (fun _ => ?_) (fun z => absurd rfl z)
  exact law_tail C hr hlk hX hbl (Nat.le_of_ble_eq_true rfl) (Nat.le_of_ble_eq_true rfl)
set_option maxHeartbeats 4000000 in
set_option maxRecDepth 100000 in
theorem law_condition {p : Program} {l : Launch} {e : Env} {s : State} {m : MethodId} {below : List Frame} {meth : Method} {c : Code} {y : MethodName} {rt : Option FieldType} {G : GT} {b : Nat} {xs : Nat → Int32} (C : Cq p s m #[Value.ref b] meth c cL_law ⟨RL, y.name, y.desc⟩ rt G (fun q => s.heap.size ≤ q) 4) (hr : meth.sig.returnType = ret) (hlk : meth.locks = false) (hX : va_X b 6 xs s s.heap) (hbl : b < s.heap.size) {Lx Lm : List Nat} {E : Nat → va_E} {h0 tb md ch : Nat} {f fT fm fc : Nat → Value} (hL : h0 ∈ Lx) (hE : E h0 = ob 12 19 f) (f4 : f 4 = .ref tb) (hLtb : tb ∈ Lx) (hEtb : E tb = ob 11 2 fT) (fT0 : fT 0 = .ref md) (fT1 : fT 1 = .ref ch) (hLmd : md ∈ Lx) (hEmd : E md = ob 0 3 fm) (fm2 : fm 2 = .int 0) (hLch : ch ∈ Lx) (hEch : E ch = ob 0 3 fc) (fc2 : fc 2 = .int 0) {mm : Nat} {mf : Nat → Value} (mhL : mm ∈ Lm) (mhE : E mm = ob 13 67 mf) (mf4 : mf 4 = .int 0) : wq p l e room_1 s m #[Value.ref b] below meth c G (fun q => s.heap.size ≤ q) 4 (lw_Z below #[Value.ref b] s) (Lm ++ Lx) E 89 353657 432 [(3, .int 0), (2, .ref mm), (1, .ref h0), (0, .ref b)] [] := by
  have hbA : ¬ (fun q : Nat => s.heap.size ≤ q) b := Nat.not_le.mpr hbl
  refine q_aload_n (j := 2) C dL_law_432 rfl ?_
  refine q_aload_n (j := 3) C dL_law_433 rfl ?_
  refine q_iload_n (j := 0) C dL_law_434 rfl ?_
  refine q_iconst (v := 1) C dL_law_435 (by decide) ?_
  refine q_iadd (v := 1) C dL_law_436 (by decide) ?_
  refine q_sld (v := (xs 1)) C hX hbl hbA dL_law_437 (by unfold vp_in; decide) rfl ?_
  refine q_aload_n (j := 3) C dL_law_438 rfl ?_
  refine q_iload_n (j := 0) C dL_law_439 rfl ?_
  refine q_iconst (v := 2) C dL_law_440 (by decide) ?_
  refine q_iadd (v := 2) C dL_law_441 (by decide) ?_
  refine q_sld (v := (xs 2)) C hX hbl hbA dL_law_442 (by unfold vp_in; decide) rfl ?_
  refine q_aload_n (j := 3) C dL_law_443 rfl ?_
  refine q_iload_n (j := 0) C dL_law_444 rfl ?_
  refine q_iconst (v := 3) C dL_law_445 (by decide) ?_
  refine q_iadd (v := 3) C dL_law_446 (by decide) ?_
  refine q_sld (v := (xs 3)) C hX hbl hbA dL_law_447 (by unfold vp_in; decide) rfl ?_
  refine q_subV (d2 := 5) (mc2 := 0) (ms2 := 0) (As := [.int (xs 1), .int (xs 2), .int (xs 3)]) (rest := []) C (x_condition (xs 1) (xs 2) (xs 3) hL hE f4 hLtb hEtb fT0 fT1 hLmd hEmd fm2 hLch hEch fc2) dL_law_448 kV_L_41 rfl hL hE ck_12 rfl (Nat.le_of_ble_eq_true rfl) ⟨Nat.le_of_ble_eq_true rfl, Nat.le_of_ble_eq_true rfl⟩ ⟨Nat.le_of_ble_eq_true rfl, Nat.le_of_ble_eq_true rfl⟩ (fun vh1 Lh1 Eh1 Dh1 h1 h1a h1b h1c => ?_)
  subst h1
  refine q_st (st2 := [.int (-1)]) rfl ?_
  refine q_aload_n (j := 1) C dL_law_451 rfl ?_
  refine q_aload_n (j := 3) C dL_law_452 rfl ?_
  refine q_iload_n (j := 0) C dL_law_453 rfl ?_
  refine q_iconst (v := 1) C dL_law_454 (by decide) ?_
  refine q_iadd (v := 1) C dL_law_455 (by decide) ?_
  refine q_sld (v := (xs 1)) C hX hbl hbA dL_law_456 (by unfold vp_in; decide) rfl ?_
  refine q_aload_n (j := 3) C dL_law_457 rfl ?_
  refine q_iload_n (j := 0) C dL_law_458 rfl ?_
  refine q_iconst (v := 2) C dL_law_459 (by decide) ?_
  refine q_iadd (v := 2) C dL_law_460 (by decide) ?_
  refine q_sld (v := (xs 2)) C hX hbl hbA dL_law_461 (by unfold vp_in; decide) rfl ?_
  refine q_aload_n (j := 3) C dL_law_462 rfl ?_
  refine q_iload_n (j := 0) C dL_law_463 rfl ?_
  refine q_iconst (v := 3) C dL_law_464 (by decide) ?_
  refine q_iadd (v := 3) C dL_law_465 (by decide) ?_
  refine q_sld (v := (xs 3)) C hX hbl hbA dL_law_466 (by unfold vp_in; decide) rfl ?_
  refine q_callV (d2 := 4) (mc2 := 0) (ms2 := 0) (As := [.int (xs 1), .int (xs 2), .int (xs 3)]) (rest := [.int (-1)]) C (m_condition (xs 1) (xs 2) (xs 3) (List.mem_append_left _ mhL) ((h1a _ mhL).trans mhE) mf4) dL_law_467 kV_L_44 rfl (List.mem_append_left _ mhL) ((h1a _ mhL).trans mhE) ck_13 rfl (Nat.le_of_ble_eq_true rfl) ⟨Nat.le_of_ble_eq_true rfl, Nat.le_of_ble_eq_true rfl⟩ ⟨Nat.le_of_ble_eq_true rfl, Nat.le_of_ble_eq_true rfl⟩ (fun vh2 Lh2 Eh2 h2 => ?_)
  subst h2
  refine q_st (st2 := [.int (-1), .int (-1)]) rfl ?_
  refine q_icmp_eq (tgt := 1377) C dL_law_470 (by decide) (fun _ => ?_) (fun z => absurd rfl z)
  exact law_tail C hr hlk hX hbl (Nat.le_of_ble_eq_true rfl) (Nat.le_of_ble_eq_true rfl)
set_option maxHeartbeats 4000000 in
set_option maxRecDepth 100000 in
theorem law_indicator {p : Program} {l : Launch} {e : Env} {s : State} {m : MethodId} {below : List Frame} {meth : Method} {c : Code} {y : MethodName} {rt : Option FieldType} {G : GT} {b : Nat} {xs : Nat → Int32} (C : Cq p s m #[Value.ref b] meth c cL_law ⟨RL, y.name, y.desc⟩ rt G (fun q => s.heap.size ≤ q) 4) (hr : meth.sig.returnType = ret) (hlk : meth.locks = false) (hX : va_X b 6 xs s s.heap) (hbl : b < s.heap.size) {Lx Lm : List Nat} {E : Nat → va_E} {h0 tp tb md ch : Nat} {f ft fT fm fc : Nat → Value} (hL : h0 ∈ Lx) (hE : E h0 = ob 12 19 f) (f0 : f 0 = .ref tp) (f4 : f 4 = .ref tb) (hLtp : tp ∈ Lx) (hEtp : E tp = ob 2 3 ft) (hLtb : tb ∈ Lx) (hEtb : E tb = ob 11 2 fT) (fT0 : fT 0 = .ref md) (fT1 : fT 1 = .ref ch) (hLmd : md ∈ Lx) (hEmd : E md = ob 0 3 fm) (fm2 : fm 2 = .int 0) (hLch : ch ∈ Lx) (hEch : E ch = ob 0 3 fc) (fc2 : fc 2 = .int 0) {mm : Nat} {mf : Nat → Value} (mhL : mm ∈ Lm) (mhE : E mm = ob 13 67 mf) (mf3 : mf 3 = .int 0) (mf4 : mf 4 = .int 0) : wq p l e room_1 s m #[Value.ref b] below meth c G (fun q => s.heap.size ≤ q) 4 (lw_Z below #[Value.ref b] s) (Lm ++ Lx) E 89 353657 475 [(3, .int 0), (2, .ref mm), (1, .ref h0), (0, .ref b)] [] := by
  have hbA : ¬ (fun q : Nat => s.heap.size ≤ q) b := Nat.not_le.mpr hbl
  refine q_aload_n (j := 2) C dL_law_475 rfl ?_
  refine q_aload_n (j := 3) C dL_law_476 rfl ?_
  refine q_iload_n (j := 0) C dL_law_477 rfl ?_
  refine q_iconst (v := 1) C dL_law_478 (by decide) ?_
  refine q_iadd (v := 1) C dL_law_479 (by decide) ?_
  refine q_sld (v := (xs 1)) C hX hbl hbA dL_law_480 (by unfold vp_in; decide) rfl ?_
  refine q_aload_n (j := 3) C dL_law_481 rfl ?_
  refine q_iload_n (j := 0) C dL_law_482 rfl ?_
  refine q_iconst (v := 2) C dL_law_483 (by decide) ?_
  refine q_iadd (v := 2) C dL_law_484 (by decide) ?_
  refine q_sld (v := (xs 2)) C hX hbl hbA dL_law_485 (by unfold vp_in; decide) rfl ?_
  refine q_subV (d2 := 6) (mc2 := 0) (ms2 := 0) (As := [.int (xs 1), .int (xs 2)]) (rest := []) C (x_indicator (xs 1) (xs 2) hL hE f0 f4 hLtp hEtp hLtb hEtb fT0 fT1 hLmd hEmd fm2 hLch hEch fc2) dL_law_486 kV_L_45 rfl hL hE ck_12 rfl (Nat.le_of_ble_eq_true rfl) ⟨Nat.le_of_ble_eq_true rfl, Nat.le_of_ble_eq_true rfl⟩ ⟨Nat.le_of_ble_eq_true rfl, Nat.le_of_ble_eq_true rfl⟩ (fun vh1 Lh1 Eh1 Dh1 h1 h1a h1b h1c => ?_)
  subst h1
  refine q_st (st2 := [.int (-1)]) rfl ?_
  refine q_aload_n (j := 1) C dL_law_489 rfl ?_
  refine q_aload_n (j := 3) C dL_law_490 rfl ?_
  refine q_iload_n (j := 0) C dL_law_491 rfl ?_
  refine q_iconst (v := 1) C dL_law_492 (by decide) ?_
  refine q_iadd (v := 1) C dL_law_493 (by decide) ?_
  refine q_sld (v := (xs 1)) C hX hbl hbA dL_law_494 (by unfold vp_in; decide) rfl ?_
  refine q_aload_n (j := 3) C dL_law_495 rfl ?_
  refine q_iload_n (j := 0) C dL_law_496 rfl ?_
  refine q_iconst (v := 2) C dL_law_497 (by decide) ?_
  refine q_iadd (v := 2) C dL_law_498 (by decide) ?_
  refine q_sld (v := (xs 2)) C hX hbl hbA dL_law_499 (by unfold vp_in; decide) rfl ?_
  refine q_callV (d2 := 4) (mc2 := 0) (ms2 := 0) (As := [.int (xs 1), .int (xs 2)]) (rest := [.int (-1)]) C (m_indicator (xs 1) (xs 2) (List.mem_append_left _ mhL) ((h1a _ mhL).trans mhE) mf3 mf4) dL_law_500 kV_L_48 rfl (List.mem_append_left _ mhL) ((h1a _ mhL).trans mhE) ck_13 rfl (Nat.le_of_ble_eq_true rfl) ⟨Nat.le_of_ble_eq_true rfl, Nat.le_of_ble_eq_true rfl⟩ ⟨Nat.le_of_ble_eq_true rfl, Nat.le_of_ble_eq_true rfl⟩ (fun vh2 Lh2 Eh2 h2 => ?_)
  subst h2
  refine q_st (st2 := [.int (-1), .int (-1)]) rfl ?_
  refine q_icmp_eq (tgt := 1377) C dL_law_503 (by decide) (fun _ => ?_) (fun z => absurd rfl z)
  exact law_tail C hr hlk hX hbl (Nat.le_of_ble_eq_true rfl) (Nat.le_of_ble_eq_true rfl)
set_option maxHeartbeats 4000000 in
set_option maxRecDepth 100000 in
theorem law_undo {p : Program} {l : Launch} {e : Env} {s : State} {m : MethodId} {below : List Frame} {meth : Method} {c : Code} {y : MethodName} {rt : Option FieldType} {G : GT} {b : Nat} {xs : Nat → Int32} (C : Cq p s m #[Value.ref b] meth c cL_law ⟨RL, y.name, y.desc⟩ rt G (fun q => s.heap.size ≤ q) 4) (hr : meth.sig.returnType = ret) (hlk : meth.locks = false) (hX : va_X b 6 xs s s.heap) (hbl : b < s.heap.size) {Lx Lm : List Nat} {E : Nat → va_E} {h0 tb md ch : Nat} {f fT fm fc : Nat → Value} (hL : h0 ∈ Lx) (hE : E h0 = ob 12 19 f) (f4 : f 4 = .ref tb) (hLtb : tb ∈ Lx) (hEtb : E tb = ob 11 2 fT) (fT0 : fT 0 = .ref md) (fT1 : fT 1 = .ref ch) (hLmd : md ∈ Lx) (hEmd : E md = ob 0 3 fm) (fm2 : fm 2 = .int 0) (hLch : ch ∈ Lx) (hEch : E ch = ob 0 3 fc) (fc2 : fc 2 = .int 0) {mm : Nat} {mf : Nat → Value} (mhL : mm ∈ Lm) (mhE : E mm = ob 13 67 mf) (mf19 : mf 19 = .int 0) : wq p l e room_1 s m #[Value.ref b] below meth c G (fun q => s.heap.size ≤ q) 4 (lw_Z below #[Value.ref b] s) (Lm ++ Lx) E 89 353657 508 [(3, .int 0), (2, .ref mm), (1, .ref h0), (0, .ref b)] [] := by
  have hbA : ¬ (fun q : Nat => s.heap.size ≤ q) b := Nat.not_le.mpr hbl
  refine q_aload_n (j := 2) C dL_law_508 rfl ?_
  refine q_subV (d2 := 5) (mc2 := 0) (ms2 := 0) (As := []) (rest := []) C (x_undo  hL hE f4 hLtb hEtb fT0 fT1 hLmd hEmd fm2 hLch hEch fc2) dL_law_509 kV_L_49 rfl hL hE ck_12 rfl (Nat.le_of_ble_eq_true rfl) ⟨Nat.le_of_ble_eq_true rfl, Nat.le_of_ble_eq_true rfl⟩ ⟨Nat.le_of_ble_eq_true rfl, Nat.le_of_ble_eq_true rfl⟩ (fun vh1 Lh1 Eh1 Dh1 h1 h1a h1b h1c => ?_)
  subst h1
  refine q_st (st2 := [.int 0]) rfl ?_
  refine q_aload_n (j := 1) C dL_law_512 rfl ?_
  refine q_callV (d2 := 4) (mc2 := 0) (ms2 := 0) (As := []) (rest := [.int 0]) C (m_undo  (List.mem_append_left _ mhL) ((h1a _ mhL).trans mhE) mf19) dL_law_513 kV_L_53 rfl (List.mem_append_left _ mhL) ((h1a _ mhL).trans mhE) ck_13 rfl (Nat.le_of_ble_eq_true rfl) ⟨Nat.le_of_ble_eq_true rfl, Nat.le_of_ble_eq_true rfl⟩ ⟨Nat.le_of_ble_eq_true rfl, Nat.le_of_ble_eq_true rfl⟩ (fun vh2 Lh2 Eh2 h2 => ?_)
  subst h2
  refine q_st (st2 := [.int 0, .int 0]) rfl ?_
  refine q_icmp_eq (tgt := 1377) C dL_law_516 (by decide) (fun _ => ?_) (fun z => absurd rfl z)
  exact law_tail C hr hlk hX hbl (Nat.le_of_ble_eq_true rfl) (Nat.le_of_ble_eq_true rfl)
set_option maxHeartbeats 4000000 in
set_option maxRecDepth 100000 in
theorem law_text {p : Program} {l : Launch} {e : Env} {s : State} {m : MethodId} {below : List Frame} {meth : Method} {c : Code} {y : MethodName} {rt : Option FieldType} {G : GT} {b : Nat} {xs : Nat → Int32} (C : Cq p s m #[Value.ref b] meth c cL_law ⟨RL, y.name, y.desc⟩ rt G (fun q => s.heap.size ≤ q) 4) (hr : meth.sig.returnType = ret) (hlk : meth.locks = false) (hX : va_X b 6 xs s s.heap) (hbl : b < s.heap.size) {Lx Lm : List Nat} {E : Nat → va_E} {h0 tp wr : Nat} {f ft fw : Nat → Value} (hL : h0 ∈ Lx) (hE : E h0 = ob 12 19 f) (f0 : f 0 = .ref tp) (f1 : f 1 = .ref wr) (hLtp : tp ∈ Lx) (hEtp : E tp = ob 2 3 ft) (ft2 : ft 2 = .int 0) (hLwr : wr ∈ Lx) (hEwr : E wr = ob 2 3 fw) (fw2 : fw 2 = .int 0) (ntw : tp ≠ wr) {mm : Nat} {mf : Nat → Value} (mhL : mm ∈ Lm) (mhE : E mm = ob 13 67 mf) (mf3 : mf 3 = .int 0) (mf30 : mf 30 = .int 0) : wq p l e room_1 s m #[Value.ref b] below meth c G (fun q => s.heap.size ≤ q) 4 (lw_Z below #[Value.ref b] s) (Lm ++ Lx) E 89 353657 521 [(3, .int 0), (2, .ref mm), (1, .ref h0), (0, .ref b)] [] := by
  have hbA : ¬ (fun q : Nat => s.heap.size ≤ q) b := Nat.not_le.mpr hbl
  refine q_aload_n (j := 2) C dL_law_521 rfl ?_
  refine q_subV (d2 := 6) (mc2 := 0) (ms2 := 0) (As := []) (rest := []) C (x_text  hL hE f0 f1 hLtp hEtp ft2 hLwr hEwr fw2 ntw) dL_law_522 kV_L_54 rfl hL hE ck_12 rfl (Nat.le_of_ble_eq_true rfl) ⟨Nat.le_of_ble_eq_true rfl, Nat.le_of_ble_eq_true rfl⟩ ⟨Nat.le_of_ble_eq_true rfl, Nat.le_of_ble_eq_true rfl⟩ (fun vh1 Lh1 Eh1 Dh1 h1 h1a h1b h1c => ?_)
  subst h1
  refine q_st (st2 := [.int 0]) rfl ?_
  refine q_aload_n (j := 1) C dL_law_525 rfl ?_
  refine q_callV (d2 := 4) (mc2 := 0) (ms2 := 0) (As := []) (rest := [.int 0]) C (m_text  (List.mem_append_left _ mhL) ((h1a _ mhL).trans mhE) mf3 mf30) dL_law_526 kV_L_57 rfl (List.mem_append_left _ mhL) ((h1a _ mhL).trans mhE) ck_13 rfl (Nat.le_of_ble_eq_true rfl) ⟨Nat.le_of_ble_eq_true rfl, Nat.le_of_ble_eq_true rfl⟩ ⟨Nat.le_of_ble_eq_true rfl, Nat.le_of_ble_eq_true rfl⟩ (fun vh2 Lh2 Eh2 h2 => ?_)
  subst h2
  refine q_st (st2 := [.int 0, .int 0]) rfl ?_
  refine q_icmp_eq (tgt := 1377) C dL_law_529 (by decide) (fun _ => ?_) (fun z => absurd rfl z)
  exact law_tail C hr hlk hX hbl (Nat.le_of_ble_eq_true rfl) (Nat.le_of_ble_eq_true rfl)
set_option maxHeartbeats 4000000 in
set_option maxRecDepth 100000 in
theorem law_measure {p : Program} {l : Launch} {e : Env} {s : State} {m : MethodId} {below : List Frame} {meth : Method} {c : Code} {y : MethodName} {rt : Option FieldType} {G : GT} {b : Nat} {xs : Nat → Int32} (C : Cq p s m #[Value.ref b] meth c cL_law ⟨RL, y.name, y.desc⟩ rt G (fun q => s.heap.size ≤ q) 4) (hr : meth.sig.returnType = ret) (hlk : meth.locks = false) (hX : va_X b 6 xs s s.heap) (hbl : b < s.heap.size) {Lx Lm : List Nat} {E : Nat → va_E} {h0 : Nat} {f : Nat → Value} (hL : h0 ∈ Lx) (hE : E h0 = ob 12 19 f) {mm : Nat} {mf : Nat → Value} (mhL : mm ∈ Lm) (mhE : E mm = ob 13 67 mf) : wq p l e room_1 s m #[Value.ref b] below meth c G (fun q => s.heap.size ≤ q) 4 (lw_Z below #[Value.ref b] s) (Lm ++ Lx) E 89 353657 534 [(3, .int 0), (2, .ref mm), (1, .ref h0), (0, .ref b)] [] := by
  have hbA : ¬ (fun q : Nat => s.heap.size ≤ q) b := Nat.not_le.mpr hbl
  refine q_aload_n (j := 2) C dL_law_534 rfl ?_
  refine q_aload_n (j := 3) C dL_law_535 rfl ?_
  refine q_iload_n (j := 0) C dL_law_536 rfl ?_
  refine q_iconst (v := 1) C dL_law_537 (by decide) ?_
  refine q_iadd (v := 1) C dL_law_538 (by decide) ?_
  refine q_sld (v := (xs 1)) C hX hbl hbA dL_law_539 (by unfold vp_in; decide) rfl ?_
  refine q_aload_n (j := 3) C dL_law_540 rfl ?_
  refine q_iload_n (j := 0) C dL_law_541 rfl ?_
  refine q_iconst (v := 2) C dL_law_542 (by decide) ?_
  refine q_iadd (v := 2) C dL_law_543 (by decide) ?_
  refine q_sld (v := (xs 2)) C hX hbl hbA dL_law_544 (by unfold vp_in; decide) rfl ?_
  refine q_aload_n (j := 3) C dL_law_545 rfl ?_
  refine q_iload_n (j := 0) C dL_law_546 rfl ?_
  refine q_iconst (v := 3) C dL_law_547 (by decide) ?_
  refine q_iadd (v := 3) C dL_law_548 (by decide) ?_
  refine q_sld (v := (xs 3)) C hX hbl hbA dL_law_549 (by unfold vp_in; decide) rfl ?_
  refine q_subV (d2 := 5) (mc2 := 0) (ms2 := 0) (As := [.int (xs 1), .int (xs 2), .int (xs 3)]) (rest := []) C (x_measure (xs 1) (xs 2) (xs 3) hL hE) dL_law_550 kV_L_58 rfl hL hE ck_12 rfl (Nat.le_of_ble_eq_true rfl) ⟨Nat.le_of_ble_eq_true rfl, Nat.le_of_ble_eq_true rfl⟩ ⟨Nat.le_of_ble_eq_true rfl, Nat.le_of_ble_eq_true rfl⟩ (fun vh1 Lh1 Eh1 Dh1 h1 h1a h1b h1c => ?_)
  subst h1
  refine q_st (st2 := [.int (an_meas (xs 1) (xs 2) (xs 3))]) rfl ?_
  refine q_aload_n (j := 1) C dL_law_553 rfl ?_
  refine q_aload_n (j := 3) C dL_law_554 rfl ?_
  refine q_iload_n (j := 0) C dL_law_555 rfl ?_
  refine q_iconst (v := 1) C dL_law_556 (by decide) ?_
  refine q_iadd (v := 1) C dL_law_557 (by decide) ?_
  refine q_sld (v := (xs 1)) C hX hbl hbA dL_law_558 (by unfold vp_in; decide) rfl ?_
  refine q_aload_n (j := 3) C dL_law_559 rfl ?_
  refine q_iload_n (j := 0) C dL_law_560 rfl ?_
  refine q_iconst (v := 2) C dL_law_561 (by decide) ?_
  refine q_iadd (v := 2) C dL_law_562 (by decide) ?_
  refine q_sld (v := (xs 2)) C hX hbl hbA dL_law_563 (by unfold vp_in; decide) rfl ?_
  refine q_aload_n (j := 3) C dL_law_564 rfl ?_
  refine q_iload_n (j := 0) C dL_law_565 rfl ?_
  refine q_iconst (v := 3) C dL_law_566 (by decide) ?_
  refine q_iadd (v := 3) C dL_law_567 (by decide) ?_
  refine q_sld (v := (xs 3)) C hX hbl hbA dL_law_568 (by unfold vp_in; decide) rfl ?_
  refine q_callV (d2 := 4) (mc2 := 0) (ms2 := 0) (As := [.int (xs 1), .int (xs 2), .int (xs 3)]) (rest := [.int (an_meas (xs 1) (xs 2) (xs 3))]) C (m_measure (xs 1) (xs 2) (xs 3) (List.mem_append_left _ mhL) ((h1a _ mhL).trans mhE)) dL_law_569 kV_L_61 rfl (List.mem_append_left _ mhL) ((h1a _ mhL).trans mhE) ck_13 rfl (Nat.le_of_ble_eq_true rfl) ⟨Nat.le_of_ble_eq_true rfl, Nat.le_of_ble_eq_true rfl⟩ ⟨Nat.le_of_ble_eq_true rfl, Nat.le_of_ble_eq_true rfl⟩ (fun vh2 Lh2 Eh2 h2 => ?_)
  subst h2
  refine q_st (st2 := [.int (an_meas (xs 1) (xs 2) (xs 3)), .int (an_meas (xs 1) (xs 2) (xs 3))]) rfl ?_
  refine q_icmp_eq (tgt := 1377) C dL_law_572 (by decide) (fun _ => ?_) (fun z => absurd rfl z)
  exact law_tail C hr hlk hX hbl (Nat.le_of_ble_eq_true rfl) (Nat.le_of_ble_eq_true rfl)
set_option maxHeartbeats 4000000 in
set_option maxRecDepth 100000 in
theorem law_set {p : Program} {l : Launch} {e : Env} {s : State} {m : MethodId} {below : List Frame} {meth : Method} {c : Code} {y : MethodName} {rt : Option FieldType} {G : GT} {b : Nat} {xs : Nat → Int32} (C : Cq p s m #[Value.ref b] meth c cL_law ⟨RL, y.name, y.desc⟩ rt G (fun q => s.heap.size ≤ q) 4) (hr : meth.sig.returnType = ret) (hlk : meth.locks = false) (hX : va_X b 6 xs s s.heap) (hbl : b < s.heap.size) {Lx Lm : List Nat} {E : Nat → va_E} {h0 tb md ch : Nat} {f fT fm fc : Nat → Value} (hL : h0 ∈ Lx) (hE : E h0 = ob 12 19 f) (f4 : f 4 = .ref tb) (hLtb : tb ∈ Lx) (hEtb : E tb = ob 11 2 fT) (fT0 : fT 0 = .ref md) (fT1 : fT 1 = .ref ch) (hLmd : md ∈ Lx) (hEmd : E md = ob 0 3 fm) (fm2 : fm 2 = .int 0) (hLch : ch ∈ Lx) (hEch : E ch = ob 0 3 fc) (fc2 : fc 2 = .int 0) {mm : Nat} {mf : Nat → Value} (mhL : mm ∈ Lm) (mhE : E mm = ob 13 67 mf) (mf4 : mf 4 = .int 0) : wq p l e room_1 s m #[Value.ref b] below meth c G (fun q => s.heap.size ≤ q) 4 (lw_Z below #[Value.ref b] s) (Lm ++ Lx) E 89 353657 577 [(3, .int 0), (2, .ref mm), (1, .ref h0), (0, .ref b)] [] := by
  have hbA : ¬ (fun q : Nat => s.heap.size ≤ q) b := Nat.not_le.mpr hbl
  refine q_aload_n (j := 2) C dL_law_577 rfl ?_
  refine q_aload_n (j := 3) C dL_law_578 rfl ?_
  refine q_iload_n (j := 0) C dL_law_579 rfl ?_
  refine q_iconst (v := 1) C dL_law_580 (by decide) ?_
  refine q_iadd (v := 1) C dL_law_581 (by decide) ?_
  refine q_sld (v := (xs 1)) C hX hbl hbA dL_law_582 (by unfold vp_in; decide) rfl ?_
  refine q_subV (d2 := 5) (mc2 := 0) (ms2 := 0) (As := [.int (xs 1)]) (rest := []) C (x_set (xs 1) hL hE f4 hLtb hEtb fT0 fT1 hLmd hEmd fm2 hLch hEch fc2) dL_law_583 kV_L_62 rfl hL hE ck_12 rfl (Nat.le_of_ble_eq_true rfl) ⟨Nat.le_of_ble_eq_true rfl, Nat.le_of_ble_eq_true rfl⟩ ⟨Nat.le_of_ble_eq_true rfl, Nat.le_of_ble_eq_true rfl⟩ (fun vh1 Lh1 Eh1 Dh1 h1 h1a h1b h1c => ?_)
  subst h1
  refine q_st (st2 := [.int (-1)]) rfl ?_
  refine q_aload_n (j := 1) C dL_law_586 rfl ?_
  refine q_aload_n (j := 3) C dL_law_587 rfl ?_
  refine q_iload_n (j := 0) C dL_law_588 rfl ?_
  refine q_iconst (v := 1) C dL_law_589 (by decide) ?_
  refine q_iadd (v := 1) C dL_law_590 (by decide) ?_
  refine q_sld (v := (xs 1)) C hX hbl hbA dL_law_591 (by unfold vp_in; decide) rfl ?_
  refine q_callV (d2 := 4) (mc2 := 0) (ms2 := 0) (As := [.int (xs 1)]) (rest := [.int (-1)]) C (m_set (xs 1) (List.mem_append_left _ mhL) ((h1a _ mhL).trans mhE) mf4) dL_law_592 kV_L_65 rfl (List.mem_append_left _ mhL) ((h1a _ mhL).trans mhE) ck_13 rfl (Nat.le_of_ble_eq_true rfl) ⟨Nat.le_of_ble_eq_true rfl, Nat.le_of_ble_eq_true rfl⟩ ⟨Nat.le_of_ble_eq_true rfl, Nat.le_of_ble_eq_true rfl⟩ (fun vh2 Lh2 Eh2 h2 => ?_)
  subst h2
  refine q_st (st2 := [.int (-1), .int (-1)]) rfl ?_
  refine q_icmp_eq (tgt := 1377) C dL_law_595 (by decide) (fun _ => ?_) (fun z => absurd rfl z)
  exact law_tail C hr hlk hX hbl (Nat.le_of_ble_eq_true rfl) (Nat.le_of_ble_eq_true rfl)
set_option maxHeartbeats 4000000 in
set_option maxRecDepth 100000 in
theorem law_head {p : Program} {l : Launch} {e : Env} {s : State} {m : MethodId} {below : List Frame} {meth : Method} {c : Code} {y : MethodName} {rt : Option FieldType} {G : GT} {b : Nat} {xs : Nat → Int32} (C : Cq p s m #[Value.ref b] meth c cL_law ⟨RL, y.name, y.desc⟩ rt G (fun q => s.heap.size ≤ q) 4) (hr : meth.sig.returnType = ret) (hlk : meth.locks = false) (hX : va_X b 6 xs s s.heap) (hbl : b < s.heap.size) {Lx Lm : List Nat} {E : Nat → va_E} {h0 tp tb md ch wd : Nat} {f ft fT fm fc fd : Nat → Value} (hL : h0 ∈ Lx) (hE : E h0 = ob 12 19 f) (f0 : f 0 = .ref tp) (f4 : f 4 = .ref tb) (f6 : f 6 = .ref wd) (hLtp : tp ∈ Lx) (hEtp : E tp = ob 2 3 ft) (ft2 : ft 2 = .int 0) (hLtb : tb ∈ Lx) (hEtb : E tb = ob 11 2 fT) (fT0 : fT 0 = .ref md) (fT1 : fT 1 = .ref ch) (hLmd : md ∈ Lx) (hEmd : E md = ob 0 3 fm) (fm2 : fm 2 = .int 0) (hLch : ch ∈ Lx) (hEch : E ch = ob 0 3 fc) (fc2 : fc 2 = .int 0) (hLwd : wd ∈ Lx) (hEwd : E wd = ob 7 12 fd) {mm : Nat} {mf : Nat → Value} (mhL : mm ∈ Lm) (mhE : E mm = ob 13 67 mf) (mf3 : mf 3 = .int 0) (mf4 : mf 4 = .int 0) : wq p l e room_1 s m #[Value.ref b] below meth c G (fun q => s.heap.size ≤ q) 4 (lw_Z below #[Value.ref b] s) (Lm ++ Lx) E 89 353657 600 [(3, .int 0), (2, .ref mm), (1, .ref h0), (0, .ref b)] [] := by
  have hbA : ¬ (fun q : Nat => s.heap.size ≤ q) b := Nat.not_le.mpr hbl
  refine q_aload_n (j := 2) C dL_law_600 rfl ?_
  refine q_aload_n (j := 3) C dL_law_601 rfl ?_
  refine q_iload_n (j := 0) C dL_law_602 rfl ?_
  refine q_iconst (v := 1) C dL_law_603 (by decide) ?_
  refine q_iadd (v := 1) C dL_law_604 (by decide) ?_
  refine q_sld (v := (xs 1)) C hX hbl hbA dL_law_605 (by unfold vp_in; decide) rfl ?_
  refine q_subV (d2 := 6) (mc2 := 0) (ms2 := 0) (As := [.int (xs 1)]) (rest := []) C (x_head (xs 1) hL hE f0 f4 f6 hLtp hEtp ft2 hLtb hEtb fT0 fT1 hLmd hEmd fm2 hLch hEch fc2 hLwd hEwd) dL_law_606 kV_L_66 rfl hL hE ck_12 rfl (Nat.le_of_ble_eq_true rfl) ⟨Nat.le_of_ble_eq_true rfl, Nat.le_of_ble_eq_true rfl⟩ ⟨Nat.le_of_ble_eq_true rfl, Nat.le_of_ble_eq_true rfl⟩ (fun vh1 Lh1 Eh1 Dh1 h1 h1a h1b h1c => ?_)
  subst h1
  refine q_st (st2 := [.int (-1)]) rfl ?_
  refine q_aload_n (j := 1) C dL_law_609 rfl ?_
  refine q_aload_n (j := 3) C dL_law_610 rfl ?_
  refine q_iload_n (j := 0) C dL_law_611 rfl ?_
  refine q_iconst (v := 1) C dL_law_612 (by decide) ?_
  refine q_iadd (v := 1) C dL_law_613 (by decide) ?_
  refine q_sld (v := (xs 1)) C hX hbl hbA dL_law_614 (by unfold vp_in; decide) rfl ?_
  refine q_callV (d2 := 4) (mc2 := 0) (ms2 := 0) (As := [.int (xs 1)]) (rest := [.int (-1)]) C (m_head (xs 1) (List.mem_append_left _ mhL) ((h1a _ mhL).trans mhE) mf3 mf4) dL_law_615 kV_L_69 rfl (List.mem_append_left _ mhL) ((h1a _ mhL).trans mhE) ck_13 rfl (Nat.le_of_ble_eq_true rfl) ⟨Nat.le_of_ble_eq_true rfl, Nat.le_of_ble_eq_true rfl⟩ ⟨Nat.le_of_ble_eq_true rfl, Nat.le_of_ble_eq_true rfl⟩ (fun vh2 Lh2 Eh2 h2 => ?_)
  subst h2
  refine q_st (st2 := [.int (-1), .int (-1)]) rfl ?_
  refine q_icmp_eq (tgt := 1377) C dL_law_618 (by decide) (fun _ => ?_) (fun z => absurd rfl z)
  exact law_tail C hr hlk hX hbl (Nat.le_of_ble_eq_true rfl) (Nat.le_of_ble_eq_true rfl)
set_option maxHeartbeats 4000000 in
set_option maxRecDepth 100000 in
theorem law_lines {p : Program} {l : Launch} {e : Env} {s : State} {m : MethodId} {below : List Frame} {meth : Method} {c : Code} {y : MethodName} {rt : Option FieldType} {G : GT} {b : Nat} {xs : Nat → Int32} (C : Cq p s m #[Value.ref b] meth c cL_law ⟨RL, y.name, y.desc⟩ rt G (fun q => s.heap.size ≤ q) 4) (hr : meth.sig.returnType = ret) (hlk : meth.locks = false) (hX : va_X b 6 xs s s.heap) (hbl : b < s.heap.size) {Lx Lm : List Nat} {E : Nat → va_E} {h0 sh : Nat} {f fs : Nat → Value} (hL : h0 ∈ Lx) (hE : E h0 = ob 12 19 f) (f9 : f 9 = .ref sh) (hLsh : sh ∈ Lx) (hEsh : E sh = ob 8 3 fs) (fs1 : fs 1 = .int 0) {mm : Nat} {mf : Nat → Value} (mhL : mm ∈ Lm) (mhE : E mm = ob 13 67 mf) (mf36 : mf 36 = .int 0) : wq p l e room_1 s m #[Value.ref b] below meth c G (fun q => s.heap.size ≤ q) 4 (lw_Z below #[Value.ref b] s) (Lm ++ Lx) E 89 353657 623 [(3, .int 0), (2, .ref mm), (1, .ref h0), (0, .ref b)] [] := by
  have hbA : ¬ (fun q : Nat => s.heap.size ≤ q) b := Nat.not_le.mpr hbl
  refine q_aload_n (j := 2) C dL_law_623 rfl ?_
  refine q_subV (d2 := 5) (mc2 := 0) (ms2 := 0) (As := []) (rest := []) C (x_lines  hL hE f9 hLsh hEsh fs1) dL_law_624 kV_L_70 rfl hL hE ck_12 rfl (Nat.le_of_ble_eq_true rfl) ⟨Nat.le_of_ble_eq_true rfl, Nat.le_of_ble_eq_true rfl⟩ ⟨Nat.le_of_ble_eq_true rfl, Nat.le_of_ble_eq_true rfl⟩ (fun vh1 Lh1 Eh1 Dh1 h1 h1a h1b h1c => ?_)
  subst h1
  refine q_st (st2 := [.int 0]) rfl ?_
  refine q_aload_n (j := 1) C dL_law_627 rfl ?_
  refine q_callV (d2 := 4) (mc2 := 0) (ms2 := 0) (As := []) (rest := [.int 0]) C (m_lines  (List.mem_append_left _ mhL) ((h1a _ mhL).trans mhE) mf36) dL_law_628 kV_L_73 rfl (List.mem_append_left _ mhL) ((h1a _ mhL).trans mhE) ck_13 rfl (Nat.le_of_ble_eq_true rfl) ⟨Nat.le_of_ble_eq_true rfl, Nat.le_of_ble_eq_true rfl⟩ ⟨Nat.le_of_ble_eq_true rfl, Nat.le_of_ble_eq_true rfl⟩ (fun vh2 Lh2 Eh2 h2 => ?_)
  subst h2
  refine q_st (st2 := [.int 0, .int 0]) rfl ?_
  refine q_icmp_eq (tgt := 1377) C dL_law_631 (by decide) (fun _ => ?_) (fun z => absurd rfl z)
  exact law_tail C hr hlk hX hbl (Nat.le_of_ble_eq_true rfl) (Nat.le_of_ble_eq_true rfl)
set_option maxHeartbeats 4000000 in
set_option maxRecDepth 100000 in
theorem law_pages {p : Program} {l : Launch} {e : Env} {s : State} {m : MethodId} {below : List Frame} {meth : Method} {c : Code} {y : MethodName} {rt : Option FieldType} {G : GT} {b : Nat} {xs : Nat → Int32} (C : Cq p s m #[Value.ref b] meth c cL_law ⟨RL, y.name, y.desc⟩ rt G (fun q => s.heap.size ≤ q) 4) (hr : meth.sig.returnType = ret) (hlk : meth.locks = false) (hX : va_X b 6 xs s s.heap) (hbl : b < s.heap.size) {Lx Lm : List Nat} {E : Nat → va_E} {h0 hd sh : Nat} {f fh fs : Nat → Value} (hL : h0 ∈ Lx) (hE : E h0 = ob 12 19 f) (f3 : f 3 = .ref hd) (f9 : f 9 = .ref sh) (f12 : f 12 = .int 25) (hLhd : hd ∈ Lx) (hEhd : E hd = ob 2 3 fh) (fh2 : fh 2 = .int 0) (hLsh : sh ∈ Lx) (hEsh : E sh = ob 8 3 fs) (fs1 : fs 1 = .int 0) {mm : Nat} {mf : Nat → Value} (mhL : mm ∈ Lm) (mhE : E mm = ob 13 67 mf) (mf32 : mf 32 = .int 25) (mf36 : mf 36 = .int 0) (mf41 : mf 41 = .int 0) : wq p l e room_1 s m #[Value.ref b] below meth c G (fun q => s.heap.size ≤ q) 4 (lw_Z below #[Value.ref b] s) (Lm ++ Lx) E 89 353657 636 [(3, .int 0), (2, .ref mm), (1, .ref h0), (0, .ref b)] [] := by
  have hbA : ¬ (fun q : Nat => s.heap.size ≤ q) b := Nat.not_le.mpr hbl
  refine q_aload_n (j := 2) C dL_law_636 rfl ?_
  refine q_subV (d2 := 5) (mc2 := 0) (ms2 := 0) (As := []) (rest := []) C (h_pages  hL hE f3 f9 f12 hLhd hEhd fh2 hLsh hEsh fs1) dL_law_637 kV_L_74 rfl hL hE ck_12 rfl (Nat.le_of_ble_eq_true rfl) ⟨Nat.le_of_ble_eq_true rfl, Nat.le_of_ble_eq_true rfl⟩ ⟨Nat.le_of_ble_eq_true rfl, Nat.le_of_ble_eq_true rfl⟩ (fun vh1 Lh1 Eh1 Dh1 h1 h1a h1b h1c => ?_)
  obtain ⟨rfl, rfl, rfl⟩ := h1
  refine q_st (st2 := [.int 0]) rfl ?_
  refine q_aload_n (j := 1) C dL_law_640 rfl ?_
  refine q_callV (d2 := 3) (mc2 := 0) (ms2 := 0) (As := []) (rest := [.int 0]) C (m_pages  (List.mem_append_left _ mhL) ((h1a _ mhL).trans mhE) mf32 mf36 mf41) dL_law_641 kV_L_77 rfl (List.mem_append_left _ mhL) ((h1a _ mhL).trans mhE) ck_13 rfl (Nat.le_of_ble_eq_true rfl) ⟨Nat.le_of_ble_eq_true rfl, Nat.le_of_ble_eq_true rfl⟩ ⟨Nat.le_of_ble_eq_true rfl, Nat.le_of_ble_eq_true rfl⟩ (fun vh2 Lh2 Eh2 h2 => ?_)
  obtain ⟨rfl, rfl, rfl⟩ := h2
  refine q_st (st2 := [.int 0, .int 0]) rfl ?_
  refine q_icmp_eq (tgt := 1377) C dL_law_644 (by decide) (fun _ => ?_) (fun z => absurd rfl z)
  exact law_tail C hr hlk hX hbl (Nat.le_of_ble_eq_true rfl) (Nat.le_of_ble_eq_true rfl)
set_option maxHeartbeats 4000000 in
set_option maxRecDepth 100000 in
theorem law_length {p : Program} {l : Launch} {e : Env} {s : State} {m : MethodId} {below : List Frame} {meth : Method} {c : Code} {y : MethodName} {rt : Option FieldType} {G : GT} {b : Nat} {xs : Nat → Int32} (C : Cq p s m #[Value.ref b] meth c cL_law ⟨RL, y.name, y.desc⟩ rt G (fun q => s.heap.size ≤ q) 4) (hr : meth.sig.returnType = ret) (hlk : meth.locks = false) (hX : va_X b 6 xs s s.heap) (hbl : b < s.heap.size) {Lx Lm : List Nat} {E : Nat → va_E} {h0 sh : Nat} {f fs : Nat → Value} (hL : h0 ∈ Lx) (hE : E h0 = ob 12 19 f) (f9 : f 9 = .ref sh) (hLsh : sh ∈ Lx) (hEsh : E sh = ob 8 3 fs) (fs1 : fs 1 = .int 0) {mm : Nat} {mf : Nat → Value} (mhL : mm ∈ Lm) (mhE : E mm = ob 13 67 mf) (mf36 : mf 36 = .int 0) : wq p l e room_1 s m #[Value.ref b] below meth c G (fun q => s.heap.size ≤ q) 4 (lw_Z below #[Value.ref b] s) (Lm ++ Lx) E 89 353657 649 [(3, .int 0), (2, .ref mm), (1, .ref h0), (0, .ref b)] [] := by
  have hbA : ¬ (fun q : Nat => s.heap.size ≤ q) b := Nat.not_le.mpr hbl
  refine q_aload_n (j := 2) C dL_law_649 rfl ?_
  refine q_aload_n (j := 3) C dL_law_650 rfl ?_
  refine q_iload_n (j := 0) C dL_law_651 rfl ?_
  refine q_iconst (v := 1) C dL_law_652 (by decide) ?_
  refine q_iadd (v := 1) C dL_law_653 (by decide) ?_
  refine q_sld (v := (xs 1)) C hX hbl hbA dL_law_654 (by unfold vp_in; decide) rfl ?_
  refine q_subV (d2 := 5) (mc2 := 0) (ms2 := 0) (As := [.int (xs 1)]) (rest := []) C (x_length (xs 1) hL hE f9 hLsh hEsh fs1) dL_law_655 kV_L_78 rfl hL hE ck_12 rfl (Nat.le_of_ble_eq_true rfl) ⟨Nat.le_of_ble_eq_true rfl, Nat.le_of_ble_eq_true rfl⟩ ⟨Nat.le_of_ble_eq_true rfl, Nat.le_of_ble_eq_true rfl⟩ (fun vh1 Lh1 Eh1 Dh1 h1 h1a h1b h1c => ?_)
  subst h1
  refine q_st (st2 := [.int (-1)]) rfl ?_
  refine q_aload_n (j := 1) C dL_law_658 rfl ?_
  refine q_aload_n (j := 3) C dL_law_659 rfl ?_
  refine q_iload_n (j := 0) C dL_law_660 rfl ?_
  refine q_iconst (v := 1) C dL_law_661 (by decide) ?_
  refine q_iadd (v := 1) C dL_law_662 (by decide) ?_
  refine q_sld (v := (xs 1)) C hX hbl hbA dL_law_663 (by unfold vp_in; decide) rfl ?_
  refine q_callV (d2 := 4) (mc2 := 0) (ms2 := 0) (As := [.int (xs 1)]) (rest := [.int (-1)]) C (m_length (xs 1) (List.mem_append_left _ mhL) ((h1a _ mhL).trans mhE) mf36) dL_law_664 kV_L_81 rfl (List.mem_append_left _ mhL) ((h1a _ mhL).trans mhE) ck_13 rfl (Nat.le_of_ble_eq_true rfl) ⟨Nat.le_of_ble_eq_true rfl, Nat.le_of_ble_eq_true rfl⟩ ⟨Nat.le_of_ble_eq_true rfl, Nat.le_of_ble_eq_true rfl⟩ (fun vh2 Lh2 Eh2 h2 => ?_)
  subst h2
  refine q_st (st2 := [.int (-1), .int (-1)]) rfl ?_
  refine q_icmp_eq (tgt := 1377) C dL_law_667 (by decide) (fun _ => ?_) (fun z => absurd rfl z)
  exact law_tail C hr hlk hX hbl (Nat.le_of_ble_eq_true rfl) (Nat.le_of_ble_eq_true rfl)
set_option maxHeartbeats 4000000 in
set_option maxRecDepth 100000 in
theorem law_cell {p : Program} {l : Launch} {e : Env} {s : State} {m : MethodId} {below : List Frame} {meth : Method} {c : Code} {y : MethodName} {rt : Option FieldType} {G : GT} {b : Nat} {xs : Nat → Int32} (C : Cq p s m #[Value.ref b] meth c cL_law ⟨RL, y.name, y.desc⟩ rt G (fun q => s.heap.size ≤ q) 4) (hr : meth.sig.returnType = ret) (hlk : meth.locks = false) (hX : va_X b 6 xs s s.heap) (hbl : b < s.heap.size) {Lx Lm : List Nat} {E : Nat → va_E} {h0 sh : Nat} {f fs : Nat → Value} (hL : h0 ∈ Lx) (hE : E h0 = ob 12 19 f) (f9 : f 9 = .ref sh) (hLsh : sh ∈ Lx) (hEsh : E sh = ob 8 3 fs) (fs1 : fs 1 = .int 0) {mm : Nat} {mf : Nat → Value} (mhL : mm ∈ Lm) (mhE : E mm = ob 13 67 mf) (mf36 : mf 36 = .int 0) : wq p l e room_1 s m #[Value.ref b] below meth c G (fun q => s.heap.size ≤ q) 4 (lw_Z below #[Value.ref b] s) (Lm ++ Lx) E 89 353657 672 [(3, .int 0), (2, .ref mm), (1, .ref h0), (0, .ref b)] [] := by
  have hbA : ¬ (fun q : Nat => s.heap.size ≤ q) b := Nat.not_le.mpr hbl
  refine q_aload_n (j := 2) C dL_law_672 rfl ?_
  refine q_aload_n (j := 3) C dL_law_673 rfl ?_
  refine q_iload_n (j := 0) C dL_law_674 rfl ?_
  refine q_iconst (v := 1) C dL_law_675 (by decide) ?_
  refine q_iadd (v := 1) C dL_law_676 (by decide) ?_
  refine q_sld (v := (xs 1)) C hX hbl hbA dL_law_677 (by unfold vp_in; decide) rfl ?_
  refine q_aload_n (j := 3) C dL_law_678 rfl ?_
  refine q_iload_n (j := 0) C dL_law_679 rfl ?_
  refine q_iconst (v := 2) C dL_law_680 (by decide) ?_
  refine q_iadd (v := 2) C dL_law_681 (by decide) ?_
  refine q_sld (v := (xs 2)) C hX hbl hbA dL_law_682 (by unfold vp_in; decide) rfl ?_
  refine q_subV (d2 := 6) (mc2 := 0) (ms2 := 0) (As := [.int (xs 1), .int (xs 2)]) (rest := []) C (x_cell (xs 1) (xs 2) hL hE f9 hLsh hEsh fs1) dL_law_683 kV_L_82 rfl hL hE ck_12 rfl (Nat.le_of_ble_eq_true rfl) ⟨Nat.le_of_ble_eq_true rfl, Nat.le_of_ble_eq_true rfl⟩ ⟨Nat.le_of_ble_eq_true rfl, Nat.le_of_ble_eq_true rfl⟩ (fun vh1 Lh1 Eh1 Dh1 h1 h1a h1b h1c => ?_)
  subst h1
  refine q_st (st2 := [.int (-1)]) rfl ?_
  refine q_aload_n (j := 1) C dL_law_686 rfl ?_
  refine q_aload_n (j := 3) C dL_law_687 rfl ?_
  refine q_iload_n (j := 0) C dL_law_688 rfl ?_
  refine q_iconst (v := 1) C dL_law_689 (by decide) ?_
  refine q_iadd (v := 1) C dL_law_690 (by decide) ?_
  refine q_sld (v := (xs 1)) C hX hbl hbA dL_law_691 (by unfold vp_in; decide) rfl ?_
  refine q_aload_n (j := 3) C dL_law_692 rfl ?_
  refine q_iload_n (j := 0) C dL_law_693 rfl ?_
  refine q_iconst (v := 2) C dL_law_694 (by decide) ?_
  refine q_iadd (v := 2) C dL_law_695 (by decide) ?_
  refine q_sld (v := (xs 2)) C hX hbl hbA dL_law_696 (by unfold vp_in; decide) rfl ?_
  refine q_callV (d2 := 4) (mc2 := 0) (ms2 := 0) (As := [.int (xs 1), .int (xs 2)]) (rest := [.int (-1)]) C (m_cell (xs 1) (xs 2) (List.mem_append_left _ mhL) ((h1a _ mhL).trans mhE) mf36) dL_law_697 kV_L_85 rfl (List.mem_append_left _ mhL) ((h1a _ mhL).trans mhE) ck_13 rfl (Nat.le_of_ble_eq_true rfl) ⟨Nat.le_of_ble_eq_true rfl, Nat.le_of_ble_eq_true rfl⟩ ⟨Nat.le_of_ble_eq_true rfl, Nat.le_of_ble_eq_true rfl⟩ (fun vh2 Lh2 Eh2 h2 => ?_)
  subst h2
  refine q_st (st2 := [.int (-1), .int (-1)]) rfl ?_
  refine q_icmp_eq (tgt := 1377) C dL_law_700 (by decide) (fun _ => ?_) (fun z => absurd rfl z)
  exact law_tail C hr hlk hX hbl (Nat.le_of_ble_eq_true rfl) (Nat.le_of_ble_eq_true rfl)
set_option maxHeartbeats 4000000 in
set_option maxRecDepth 100000 in
theorem law_page {p : Program} {l : Launch} {e : Env} {s : State} {m : MethodId} {below : List Frame} {meth : Method} {c : Code} {y : MethodName} {rt : Option FieldType} {G : GT} {b : Nat} {xs : Nat → Int32} (C : Cq p s m #[Value.ref b] meth c cL_law ⟨RL, y.name, y.desc⟩ rt G (fun q => s.heap.size ≤ q) 4) (hr : meth.sig.returnType = ret) (hlk : meth.locks = false) (hX : va_X b 6 xs s s.heap) (hbl : b < s.heap.size) {Lx Lm : List Nat} {E : Nat → va_E} {h0 hd sh : Nat} {f fh fs : Nat → Value} (hL : h0 ∈ Lx) (hE : E h0 = ob 12 19 f) (f3 : f 3 = .ref hd) (f9 : f 9 = .ref sh) (f12 : f 12 = .int 25) (hLhd : hd ∈ Lx) (hEhd : E hd = ob 2 3 fh) (fh2 : fh 2 = .int 0) (hLsh : sh ∈ Lx) (hEsh : E sh = ob 8 3 fs) (fs1 : fs 1 = .int 0) {mm : Nat} {mf : Nat → Value} (mhL : mm ∈ Lm) (mhE : E mm = ob 13 67 mf) (mf32 : mf 32 = .int 25) (mf36 : mf 36 = .int 0) (mf41 : mf 41 = .int 0) : wq p l e room_1 s m #[Value.ref b] below meth c G (fun q => s.heap.size ≤ q) 4 (lw_Z below #[Value.ref b] s) (Lm ++ Lx) E 89 353657 705 [(3, .int 0), (2, .ref mm), (1, .ref h0), (0, .ref b)] [] := by
  have hbA : ¬ (fun q : Nat => s.heap.size ≤ q) b := Nat.not_le.mpr hbl
  refine q_aload_n (j := 2) C dL_law_705 rfl ?_
  refine q_aload_n (j := 3) C dL_law_706 rfl ?_
  refine q_iload_n (j := 0) C dL_law_707 rfl ?_
  refine q_iconst (v := 1) C dL_law_708 (by decide) ?_
  refine q_iadd (v := 1) C dL_law_709 (by decide) ?_
  refine q_sld (v := (xs 1)) C hX hbl hbA dL_law_710 (by unfold vp_in; decide) rfl ?_
  refine q_aload_n (j := 3) C dL_law_711 rfl ?_
  refine q_iload_n (j := 0) C dL_law_712 rfl ?_
  refine q_iconst (v := 2) C dL_law_713 (by decide) ?_
  refine q_iadd (v := 2) C dL_law_714 (by decide) ?_
  refine q_sld (v := (xs 2)) C hX hbl hbA dL_law_715 (by unfold vp_in; decide) rfl ?_
  refine q_aload_n (j := 3) C dL_law_716 rfl ?_
  refine q_iload_n (j := 0) C dL_law_717 rfl ?_
  refine q_iconst (v := 3) C dL_law_718 (by decide) ?_
  refine q_iadd (v := 3) C dL_law_719 (by decide) ?_
  refine q_sld (v := (xs 3)) C hX hbl hbA dL_law_720 (by unfold vp_in; decide) rfl ?_
  refine q_subV (d2 := 6) (mc2 := 0) (ms2 := 0) (As := [.int (xs 1), .int (xs 2), .int (xs 3)]) (rest := []) C (x_page (xs 1) (xs 2) (xs 3) hL hE f3 f9 f12 hLhd hEhd fh2 hLsh hEsh fs1) dL_law_721 kV_L_86 rfl hL hE ck_12 rfl (Nat.le_of_ble_eq_true rfl) ⟨Nat.le_of_ble_eq_true rfl, Nat.le_of_ble_eq_true rfl⟩ ⟨Nat.le_of_ble_eq_true rfl, Nat.le_of_ble_eq_true rfl⟩ (fun vh1 Lh1 Eh1 Dh1 h1 h1a h1b h1c => ?_)
  subst h1
  refine q_st (st2 := [.int (-1)]) rfl ?_
  refine q_aload_n (j := 1) C dL_law_724 rfl ?_
  refine q_aload_n (j := 3) C dL_law_725 rfl ?_
  refine q_iload_n (j := 0) C dL_law_726 rfl ?_
  refine q_iconst (v := 1) C dL_law_727 (by decide) ?_
  refine q_iadd (v := 1) C dL_law_728 (by decide) ?_
  refine q_sld (v := (xs 1)) C hX hbl hbA dL_law_729 (by unfold vp_in; decide) rfl ?_
  refine q_aload_n (j := 3) C dL_law_730 rfl ?_
  refine q_iload_n (j := 0) C dL_law_731 rfl ?_
  refine q_iconst (v := 2) C dL_law_732 (by decide) ?_
  refine q_iadd (v := 2) C dL_law_733 (by decide) ?_
  refine q_sld (v := (xs 2)) C hX hbl hbA dL_law_734 (by unfold vp_in; decide) rfl ?_
  refine q_aload_n (j := 3) C dL_law_735 rfl ?_
  refine q_iload_n (j := 0) C dL_law_736 rfl ?_
  refine q_iconst (v := 3) C dL_law_737 (by decide) ?_
  refine q_iadd (v := 3) C dL_law_738 (by decide) ?_
  refine q_sld (v := (xs 3)) C hX hbl hbA dL_law_739 (by unfold vp_in; decide) rfl ?_
  refine q_callV (d2 := 4) (mc2 := 0) (ms2 := 0) (As := [.int (xs 1), .int (xs 2), .int (xs 3)]) (rest := [.int (-1)]) C (m_page (xs 1) (xs 2) (xs 3) (List.mem_append_left _ mhL) ((h1a _ mhL).trans mhE) mf32 mf36 mf41) dL_law_740 kV_L_89 rfl (List.mem_append_left _ mhL) ((h1a _ mhL).trans mhE) ck_13 rfl (Nat.le_of_ble_eq_true rfl) ⟨Nat.le_of_ble_eq_true rfl, Nat.le_of_ble_eq_true rfl⟩ ⟨Nat.le_of_ble_eq_true rfl, Nat.le_of_ble_eq_true rfl⟩ (fun vh2 Lh2 Eh2 h2 => ?_)
  subst h2
  refine q_st (st2 := [.int (-1), .int (-1)]) rfl ?_
  refine q_icmp_eq (tgt := 1377) C dL_law_743 (by decide) (fun _ => ?_) (fun z => absurd rfl z)
  exact law_tail C hr hlk hX hbl (Nat.le_of_ble_eq_true rfl) (Nat.le_of_ble_eq_true rfl)
set_option maxHeartbeats 4000000 in
set_option maxRecDepth 100000 in
theorem law_cut {p : Program} {l : Launch} {e : Env} {s : State} {m : MethodId} {below : List Frame} {meth : Method} {c : Code} {y : MethodName} {rt : Option FieldType} {G : GT} {b : Nat} {xs : Nat → Int32} (C : Cq p s m #[Value.ref b] meth c cL_law ⟨RL, y.name, y.desc⟩ rt G (fun q => s.heap.size ≤ q) 4) (hr : meth.sig.returnType = ret) (hlk : meth.locks = false) (hX : va_X b 6 xs s s.heap) (hbl : b < s.heap.size) {Lx Lm : List Nat} {E : Nat → va_E} {h0 sh : Nat} {f fs : Nat → Value} (hL : h0 ∈ Lx) (hE : E h0 = ob 12 19 f) (f9 : f 9 = .ref sh) (hLsh : sh ∈ Lx) (hEsh : E sh = ob 8 3 fs) (fs1 : fs 1 = .int 0) {mm : Nat} {mf : Nat → Value} (mhL : mm ∈ Lm) (mhE : E mm = ob 13 67 mf) (mf36 : mf 36 = .int 0) : wq p l e room_1 s m #[Value.ref b] below meth c G (fun q => s.heap.size ≤ q) 4 (lw_Z below #[Value.ref b] s) (Lm ++ Lx) E 89 353657 748 [(3, .int 0), (2, .ref mm), (1, .ref h0), (0, .ref b)] [] := by
  have hbA : ¬ (fun q : Nat => s.heap.size ≤ q) b := Nat.not_le.mpr hbl
  refine q_aload_n (j := 2) C dL_law_748 rfl ?_
  refine q_aload_n (j := 3) C dL_law_749 rfl ?_
  refine q_iload_n (j := 0) C dL_law_750 rfl ?_
  refine q_iconst (v := 1) C dL_law_751 (by decide) ?_
  refine q_iadd (v := 1) C dL_law_752 (by decide) ?_
  refine q_sld (v := (xs 1)) C hX hbl hbA dL_law_753 (by unfold vp_in; decide) rfl ?_
  refine q_aload_n (j := 3) C dL_law_754 rfl ?_
  refine q_iload_n (j := 0) C dL_law_755 rfl ?_
  refine q_iconst (v := 2) C dL_law_756 (by decide) ?_
  refine q_iadd (v := 2) C dL_law_757 (by decide) ?_
  refine q_sld (v := (xs 2)) C hX hbl hbA dL_law_758 (by unfold vp_in; decide) rfl ?_
  refine q_subV (d2 := 5) (mc2 := 0) (ms2 := 0) (As := [.int (xs 1), .int (xs 2)]) (rest := []) C (x_cut (xs 1) (xs 2) hL hE f9 hLsh hEsh fs1) dL_law_759 kV_L_90 rfl hL hE ck_12 rfl (Nat.le_of_ble_eq_true rfl) ⟨Nat.le_of_ble_eq_true rfl, Nat.le_of_ble_eq_true rfl⟩ ⟨Nat.le_of_ble_eq_true rfl, Nat.le_of_ble_eq_true rfl⟩ (fun vh1 Lh1 Eh1 Dh1 h1 h1a h1b h1c => ?_)
  subst h1
  refine q_st (st2 := [.int (-1)]) rfl ?_
  refine q_aload_n (j := 1) C dL_law_762 rfl ?_
  refine q_aload_n (j := 3) C dL_law_763 rfl ?_
  refine q_iload_n (j := 0) C dL_law_764 rfl ?_
  refine q_iconst (v := 1) C dL_law_765 (by decide) ?_
  refine q_iadd (v := 1) C dL_law_766 (by decide) ?_
  refine q_sld (v := (xs 1)) C hX hbl hbA dL_law_767 (by unfold vp_in; decide) rfl ?_
  refine q_aload_n (j := 3) C dL_law_768 rfl ?_
  refine q_iload_n (j := 0) C dL_law_769 rfl ?_
  refine q_iconst (v := 2) C dL_law_770 (by decide) ?_
  refine q_iadd (v := 2) C dL_law_771 (by decide) ?_
  refine q_sld (v := (xs 2)) C hX hbl hbA dL_law_772 (by unfold vp_in; decide) rfl ?_
  refine q_callV (d2 := 4) (mc2 := 0) (ms2 := 0) (As := [.int (xs 1), .int (xs 2)]) (rest := [.int (-1)]) C (m_cut (xs 1) (xs 2) (List.mem_append_left _ mhL) ((h1a _ mhL).trans mhE) mf36) dL_law_773 kV_L_93 rfl (List.mem_append_left _ mhL) ((h1a _ mhL).trans mhE) ck_13 rfl (Nat.le_of_ble_eq_true rfl) ⟨Nat.le_of_ble_eq_true rfl, Nat.le_of_ble_eq_true rfl⟩ ⟨Nat.le_of_ble_eq_true rfl, Nat.le_of_ble_eq_true rfl⟩ (fun vh2 Lh2 Eh2 h2 => ?_)
  subst h2
  refine q_st (st2 := [.int (-1), .int (-1)]) rfl ?_
  refine q_icmp_eq (tgt := 1377) C dL_law_776 (by decide) (fun _ => ?_) (fun z => absurd rfl z)
  exact law_tail C hr hlk hX hbl (Nat.le_of_ble_eq_true rfl) (Nat.le_of_ble_eq_true rfl)
set_option maxHeartbeats 4000000 in
set_option maxRecDepth 100000 in
theorem law_lose {p : Program} {l : Launch} {e : Env} {s : State} {m : MethodId} {below : List Frame} {meth : Method} {c : Code} {y : MethodName} {rt : Option FieldType} {G : GT} {b : Nat} {xs : Nat → Int32} (C : Cq p s m #[Value.ref b] meth c cL_law ⟨RL, y.name, y.desc⟩ rt G (fun q => s.heap.size ≤ q) 4) (hr : meth.sig.returnType = ret) (hlk : meth.locks = false) (hX : va_X b 6 xs s s.heap) (hbl : b < s.heap.size) {Lx Lm : List Nat} {E : Nat → va_E} {h0 sh : Nat} {f fs : Nat → Value} (hL : h0 ∈ Lx) (hE : E h0 = ob 12 19 f) (f9 : f 9 = .ref sh) (hLsh : sh ∈ Lx) (hEsh : E sh = ob 8 3 fs) (fs1 : fs 1 = .int 0) {mm : Nat} {mf : Nat → Value} (mhL : mm ∈ Lm) (mhE : E mm = ob 13 67 mf) (mf36 : mf 36 = .int 0) : wq p l e room_1 s m #[Value.ref b] below meth c G (fun q => s.heap.size ≤ q) 4 (lw_Z below #[Value.ref b] s) (Lm ++ Lx) E 89 353657 781 [(3, .int 0), (2, .ref mm), (1, .ref h0), (0, .ref b)] [] := by
  have hbA : ¬ (fun q : Nat => s.heap.size ≤ q) b := Nat.not_le.mpr hbl
  refine q_aload_n (j := 2) C dL_law_781 rfl ?_
  refine q_aload_n (j := 3) C dL_law_782 rfl ?_
  refine q_iload_n (j := 0) C dL_law_783 rfl ?_
  refine q_iconst (v := 1) C dL_law_784 (by decide) ?_
  refine q_iadd (v := 1) C dL_law_785 (by decide) ?_
  refine q_sld (v := (xs 1)) C hX hbl hbA dL_law_786 (by unfold vp_in; decide) rfl ?_
  refine q_subV (d2 := 5) (mc2 := 0) (ms2 := 0) (As := [.int (xs 1)]) (rest := []) C (x_lose (xs 1) hL hE f9 hLsh hEsh fs1) dL_law_787 kV_L_94 rfl hL hE ck_12 rfl (Nat.le_of_ble_eq_true rfl) ⟨Nat.le_of_ble_eq_true rfl, Nat.le_of_ble_eq_true rfl⟩ ⟨Nat.le_of_ble_eq_true rfl, Nat.le_of_ble_eq_true rfl⟩ (fun vh1 Lh1 Eh1 Dh1 h1 h1a h1b h1c => ?_)
  subst h1
  refine q_st (st2 := [.int (-1)]) rfl ?_
  refine q_aload_n (j := 1) C dL_law_790 rfl ?_
  refine q_aload_n (j := 3) C dL_law_791 rfl ?_
  refine q_iload_n (j := 0) C dL_law_792 rfl ?_
  refine q_iconst (v := 1) C dL_law_793 (by decide) ?_
  refine q_iadd (v := 1) C dL_law_794 (by decide) ?_
  refine q_sld (v := (xs 1)) C hX hbl hbA dL_law_795 (by unfold vp_in; decide) rfl ?_
  refine q_callV (d2 := 4) (mc2 := 0) (ms2 := 0) (As := [.int (xs 1)]) (rest := [.int (-1)]) C (m_lose (xs 1) (List.mem_append_left _ mhL) ((h1a _ mhL).trans mhE) mf36) dL_law_796 kV_L_97 rfl (List.mem_append_left _ mhL) ((h1a _ mhL).trans mhE) ck_13 rfl (Nat.le_of_ble_eq_true rfl) ⟨Nat.le_of_ble_eq_true rfl, Nat.le_of_ble_eq_true rfl⟩ ⟨Nat.le_of_ble_eq_true rfl, Nat.le_of_ble_eq_true rfl⟩ (fun vh2 Lh2 Eh2 h2 => ?_)
  subst h2
  refine q_st (st2 := [.int (-1), .int (-1)]) rfl ?_
  refine q_icmp_eq (tgt := 1377) C dL_law_799 (by decide) (fun _ => ?_) (fun z => absurd rfl z)
  exact law_tail C hr hlk hX hbl (Nat.le_of_ble_eq_true rfl) (Nat.le_of_ble_eq_true rfl)
set_option maxHeartbeats 4000000 in
set_option maxRecDepth 100000 in
theorem law_copyRow {p : Program} {l : Launch} {e : Env} {s : State} {m : MethodId} {below : List Frame} {meth : Method} {c : Code} {y : MethodName} {rt : Option FieldType} {G : GT} {b : Nat} {xs : Nat → Int32} (C : Cq p s m #[Value.ref b] meth c cL_law ⟨RL, y.name, y.desc⟩ rt G (fun q => s.heap.size ≤ q) 4) (hr : meth.sig.returnType = ret) (hlk : meth.locks = false) (hX : va_X b 6 xs s s.heap) (hbl : b < s.heap.size) {Lx Lm : List Nat} {E : Nat → va_E} {h0 sh : Nat} {f fs : Nat → Value} (hL : h0 ∈ Lx) (hE : E h0 = ob 12 19 f) (f9 : f 9 = .ref sh) (hLsh : sh ∈ Lx) (hEsh : E sh = ob 8 3 fs) (fs1 : fs 1 = .int 0) {mm : Nat} {mf : Nat → Value} (mhL : mm ∈ Lm) (mhE : E mm = ob 13 67 mf) (mf36 : mf 36 = .int 0) : wq p l e room_1 s m #[Value.ref b] below meth c G (fun q => s.heap.size ≤ q) 4 (lw_Z below #[Value.ref b] s) (Lm ++ Lx) E 89 353657 804 [(3, .int 0), (2, .ref mm), (1, .ref h0), (0, .ref b)] [] := by
  have hbA : ¬ (fun q : Nat => s.heap.size ≤ q) b := Nat.not_le.mpr hbl
  refine q_aload_n (j := 2) C dL_law_804 rfl ?_
  refine q_aload_n (j := 3) C dL_law_805 rfl ?_
  refine q_iload_n (j := 0) C dL_law_806 rfl ?_
  refine q_iconst (v := 1) C dL_law_807 (by decide) ?_
  refine q_iadd (v := 1) C dL_law_808 (by decide) ?_
  refine q_sld (v := (xs 1)) C hX hbl hbA dL_law_809 (by unfold vp_in; decide) rfl ?_
  refine q_aload_n (j := 3) C dL_law_810 rfl ?_
  refine q_iload_n (j := 0) C dL_law_811 rfl ?_
  refine q_iconst (v := 2) C dL_law_812 (by decide) ?_
  refine q_iadd (v := 2) C dL_law_813 (by decide) ?_
  refine q_sld (v := (xs 2)) C hX hbl hbA dL_law_814 (by unfold vp_in; decide) rfl ?_
  refine q_aload_n (j := 3) C dL_law_815 rfl ?_
  refine q_iload_n (j := 0) C dL_law_816 rfl ?_
  refine q_iconst (v := 3) C dL_law_817 (by decide) ?_
  refine q_iadd (v := 3) C dL_law_818 (by decide) ?_
  refine q_sld (v := (xs 3)) C hX hbl hbA dL_law_819 (by unfold vp_in; decide) rfl ?_
  refine q_aload_n (j := 3) C dL_law_820 rfl ?_
  refine q_iload_n (j := 0) C dL_law_821 rfl ?_
  refine q_iconst (v := 4) C dL_law_822 (by decide) ?_
  refine q_iadd (v := 4) C dL_law_823 (by decide) ?_
  refine q_sld (v := (xs 4)) C hX hbl hbA dL_law_824 (by unfold vp_in; decide) rfl ?_
  refine q_aload_n (j := 3) C dL_law_825 rfl ?_
  refine q_iload_n (j := 0) C dL_law_826 rfl ?_
  refine q_iconst (v := 5) C dL_law_827 (by decide) ?_
  refine q_iadd (v := 5) C dL_law_828 (by decide) ?_
  refine q_sld (v := (xs 5)) C hX hbl hbA dL_law_829 (by unfold vp_in; decide) rfl ?_
  refine q_subV (d2 := 5) (mc2 := 0) (ms2 := 0) (As := [.int (xs 1), .int (xs 2), .int (xs 3), .int (xs 4), .int (xs 5)]) (rest := []) C (x_copyRow (xs 1) (xs 2) (xs 3) (xs 4) (xs 5) hL hE f9 hLsh hEsh fs1) dL_law_830 kV_L_98 rfl hL hE ck_12 rfl (Nat.le_of_ble_eq_true rfl) ⟨Nat.le_of_ble_eq_true rfl, Nat.le_of_ble_eq_true rfl⟩ ⟨Nat.le_of_ble_eq_true rfl, Nat.le_of_ble_eq_true rfl⟩ (fun vh1 Lh1 Eh1 Dh1 h1 h1a h1b h1c => ?_)
  subst h1
  refine q_st (st2 := [.int (-1)]) rfl ?_
  refine q_aload_n (j := 1) C dL_law_833 rfl ?_
  refine q_aload_n (j := 3) C dL_law_834 rfl ?_
  refine q_iload_n (j := 0) C dL_law_835 rfl ?_
  refine q_iconst (v := 1) C dL_law_836 (by decide) ?_
  refine q_iadd (v := 1) C dL_law_837 (by decide) ?_
  refine q_sld (v := (xs 1)) C hX hbl hbA dL_law_838 (by unfold vp_in; decide) rfl ?_
  refine q_aload_n (j := 3) C dL_law_839 rfl ?_
  refine q_iload_n (j := 0) C dL_law_840 rfl ?_
  refine q_iconst (v := 2) C dL_law_841 (by decide) ?_
  refine q_iadd (v := 2) C dL_law_842 (by decide) ?_
  refine q_sld (v := (xs 2)) C hX hbl hbA dL_law_843 (by unfold vp_in; decide) rfl ?_
  refine q_aload_n (j := 3) C dL_law_844 rfl ?_
  refine q_iload_n (j := 0) C dL_law_845 rfl ?_
  refine q_iconst (v := 3) C dL_law_846 (by decide) ?_
  refine q_iadd (v := 3) C dL_law_847 (by decide) ?_
  refine q_sld (v := (xs 3)) C hX hbl hbA dL_law_848 (by unfold vp_in; decide) rfl ?_
  refine q_aload_n (j := 3) C dL_law_849 rfl ?_
  refine q_iload_n (j := 0) C dL_law_850 rfl ?_
  refine q_iconst (v := 4) C dL_law_851 (by decide) ?_
  refine q_iadd (v := 4) C dL_law_852 (by decide) ?_
  refine q_sld (v := (xs 4)) C hX hbl hbA dL_law_853 (by unfold vp_in; decide) rfl ?_
  refine q_aload_n (j := 3) C dL_law_854 rfl ?_
  refine q_iload_n (j := 0) C dL_law_855 rfl ?_
  refine q_iconst (v := 5) C dL_law_856 (by decide) ?_
  refine q_iadd (v := 5) C dL_law_857 (by decide) ?_
  refine q_sld (v := (xs 5)) C hX hbl hbA dL_law_858 (by unfold vp_in; decide) rfl ?_
  refine q_callV (d2 := 4) (mc2 := 0) (ms2 := 0) (As := [.int (xs 1), .int (xs 2), .int (xs 3), .int (xs 4), .int (xs 5)]) (rest := [.int (-1)]) C (m_copyRow (xs 1) (xs 2) (xs 3) (xs 4) (xs 5) (List.mem_append_left _ mhL) ((h1a _ mhL).trans mhE) mf36) dL_law_859 kV_L_101 rfl (List.mem_append_left _ mhL) ((h1a _ mhL).trans mhE) ck_13 rfl (Nat.le_of_ble_eq_true rfl) ⟨Nat.le_of_ble_eq_true rfl, Nat.le_of_ble_eq_true rfl⟩ ⟨Nat.le_of_ble_eq_true rfl, Nat.le_of_ble_eq_true rfl⟩ (fun vh2 Lh2 Eh2 h2 => ?_)
  subst h2
  refine q_st (st2 := [.int (-1), .int (-1)]) rfl ?_
  refine q_icmp_eq (tgt := 1377) C dL_law_862 (by decide) (fun _ => ?_) (fun z => absurd rfl z)
  exact law_tail C hr hlk hX hbl (Nat.le_of_ble_eq_true rfl) (Nat.le_of_ble_eq_true rfl)
set_option maxHeartbeats 4000000 in
set_option maxRecDepth 100000 in
theorem law_copyLines {p : Program} {l : Launch} {e : Env} {s : State} {m : MethodId} {below : List Frame} {meth : Method} {c : Code} {y : MethodName} {rt : Option FieldType} {G : GT} {b : Nat} {xs : Nat → Int32} (C : Cq p s m #[Value.ref b] meth c cL_law ⟨RL, y.name, y.desc⟩ rt G (fun q => s.heap.size ≤ q) 4) (hr : meth.sig.returnType = ret) (hlk : meth.locks = false) (hX : va_X b 6 xs s s.heap) (hbl : b < s.heap.size) {Lx Lm : List Nat} {E : Nat → va_E} {h0 sh : Nat} {f fs : Nat → Value} (hL : h0 ∈ Lx) (hE : E h0 = ob 12 19 f) (f9 : f 9 = .ref sh) (hLsh : sh ∈ Lx) (hEsh : E sh = ob 8 3 fs) (fs1 : fs 1 = .int 0) {mm : Nat} {mf : Nat → Value} (mhL : mm ∈ Lm) (mhE : E mm = ob 13 67 mf) (mf36 : mf 36 = .int 0) : wq p l e room_1 s m #[Value.ref b] below meth c G (fun q => s.heap.size ≤ q) 4 (lw_Z below #[Value.ref b] s) (Lm ++ Lx) E 89 353657 867 [(3, .int 0), (2, .ref mm), (1, .ref h0), (0, .ref b)] [] := by
  have hbA : ¬ (fun q : Nat => s.heap.size ≤ q) b := Nat.not_le.mpr hbl
  refine q_aload_n (j := 2) C dL_law_867 rfl ?_
  refine q_aload_n (j := 3) C dL_law_868 rfl ?_
  refine q_iload_n (j := 0) C dL_law_869 rfl ?_
  refine q_iconst (v := 1) C dL_law_870 (by decide) ?_
  refine q_iadd (v := 1) C dL_law_871 (by decide) ?_
  refine q_sld (v := (xs 1)) C hX hbl hbA dL_law_872 (by unfold vp_in; decide) rfl ?_
  refine q_aload_n (j := 3) C dL_law_873 rfl ?_
  refine q_iload_n (j := 0) C dL_law_874 rfl ?_
  refine q_iconst (v := 2) C dL_law_875 (by decide) ?_
  refine q_iadd (v := 2) C dL_law_876 (by decide) ?_
  refine q_sld (v := (xs 2)) C hX hbl hbA dL_law_877 (by unfold vp_in; decide) rfl ?_
  refine q_aload_n (j := 3) C dL_law_878 rfl ?_
  refine q_iload_n (j := 0) C dL_law_879 rfl ?_
  refine q_iconst (v := 3) C dL_law_880 (by decide) ?_
  refine q_iadd (v := 3) C dL_law_881 (by decide) ?_
  refine q_sld (v := (xs 3)) C hX hbl hbA dL_law_882 (by unfold vp_in; decide) rfl ?_
  refine q_subV (d2 := 5) (mc2 := 0) (ms2 := 0) (As := [.int (xs 1), .int (xs 2), .int (xs 3)]) (rest := []) C (x_copyLines (xs 1) (xs 2) (xs 3) hL hE f9 hLsh hEsh fs1) dL_law_883 kV_L_102 rfl hL hE ck_12 rfl (Nat.le_of_ble_eq_true rfl) ⟨Nat.le_of_ble_eq_true rfl, Nat.le_of_ble_eq_true rfl⟩ ⟨Nat.le_of_ble_eq_true rfl, Nat.le_of_ble_eq_true rfl⟩ (fun vh1 Lh1 Eh1 Dh1 h1 h1a h1b h1c => ?_)
  subst h1
  refine q_st (st2 := [.int (an_end (xs 3))]) rfl ?_
  refine q_aload_n (j := 1) C dL_law_886 rfl ?_
  refine q_aload_n (j := 3) C dL_law_887 rfl ?_
  refine q_iload_n (j := 0) C dL_law_888 rfl ?_
  refine q_iconst (v := 1) C dL_law_889 (by decide) ?_
  refine q_iadd (v := 1) C dL_law_890 (by decide) ?_
  refine q_sld (v := (xs 1)) C hX hbl hbA dL_law_891 (by unfold vp_in; decide) rfl ?_
  refine q_aload_n (j := 3) C dL_law_892 rfl ?_
  refine q_iload_n (j := 0) C dL_law_893 rfl ?_
  refine q_iconst (v := 2) C dL_law_894 (by decide) ?_
  refine q_iadd (v := 2) C dL_law_895 (by decide) ?_
  refine q_sld (v := (xs 2)) C hX hbl hbA dL_law_896 (by unfold vp_in; decide) rfl ?_
  refine q_aload_n (j := 3) C dL_law_897 rfl ?_
  refine q_iload_n (j := 0) C dL_law_898 rfl ?_
  refine q_iconst (v := 3) C dL_law_899 (by decide) ?_
  refine q_iadd (v := 3) C dL_law_900 (by decide) ?_
  refine q_sld (v := (xs 3)) C hX hbl hbA dL_law_901 (by unfold vp_in; decide) rfl ?_
  refine q_callV (d2 := 4) (mc2 := 0) (ms2 := 0) (As := [.int (xs 1), .int (xs 2), .int (xs 3)]) (rest := [.int (an_end (xs 3))]) C (m_copyLines (xs 1) (xs 2) (xs 3) (List.mem_append_left _ mhL) ((h1a _ mhL).trans mhE) mf36) dL_law_902 kV_L_105 rfl (List.mem_append_left _ mhL) ((h1a _ mhL).trans mhE) ck_13 rfl (Nat.le_of_ble_eq_true rfl) ⟨Nat.le_of_ble_eq_true rfl, Nat.le_of_ble_eq_true rfl⟩ ⟨Nat.le_of_ble_eq_true rfl, Nat.le_of_ble_eq_true rfl⟩ (fun vh2 Lh2 Eh2 h2 => ?_)
  subst h2
  refine q_st (st2 := [.int (an_end (xs 3)), .int (an_end (xs 3))]) rfl ?_
  refine q_icmp_eq (tgt := 1377) C dL_law_905 (by decide) (fun _ => ?_) (fun z => absurd rfl z)
  exact law_tail C hr hlk hX hbl (Nat.le_of_ble_eq_true rfl) (Nat.le_of_ble_eq_true rfl)
set_option maxHeartbeats 4000000 in
set_option maxRecDepth 100000 in
theorem law_copied {p : Program} {l : Launch} {e : Env} {s : State} {m : MethodId} {below : List Frame} {meth : Method} {c : Code} {y : MethodName} {rt : Option FieldType} {G : GT} {b : Nat} {xs : Nat → Int32} (C : Cq p s m #[Value.ref b] meth c cL_law ⟨RL, y.name, y.desc⟩ rt G (fun q => s.heap.size ≤ q) 4) (hr : meth.sig.returnType = ret) (hlk : meth.locks = false) (hX : va_X b 6 xs s s.heap) (hbl : b < s.heap.size) {Lx Lm : List Nat} {E : Nat → va_E} {h0 : Nat} {f : Nat → Value} (hL : h0 ∈ Lx) (hE : E h0 = ob 12 19 f) (f15 : f 15 = .int 0) {mm : Nat} {mf : Nat → Value} (mhL : mm ∈ Lm) (mhE : E mm = ob 13 67 mf) (mf42 : mf 42 = .int 0) : wq p l e room_1 s m #[Value.ref b] below meth c G (fun q => s.heap.size ≤ q) 4 (lw_Z below #[Value.ref b] s) (Lm ++ Lx) E 89 353657 910 [(3, .int 0), (2, .ref mm), (1, .ref h0), (0, .ref b)] [] := by
  have hbA : ¬ (fun q : Nat => s.heap.size ≤ q) b := Nat.not_le.mpr hbl
  refine q_aload_n (j := 2) C dL_law_910 rfl ?_
  refine q_subV (d2 := 5) (mc2 := 0) (ms2 := 0) (As := []) (rest := []) C (x_copied  hL hE f15) dL_law_911 kV_L_106 rfl hL hE ck_12 rfl (Nat.le_of_ble_eq_true rfl) ⟨Nat.le_of_ble_eq_true rfl, Nat.le_of_ble_eq_true rfl⟩ ⟨Nat.le_of_ble_eq_true rfl, Nat.le_of_ble_eq_true rfl⟩ (fun vh1 Lh1 Eh1 Dh1 h1 h1a h1b h1c => ?_)
  subst h1
  refine q_st (st2 := [.int 0]) rfl ?_
  refine q_aload_n (j := 1) C dL_law_914 rfl ?_
  refine q_callV (d2 := 4) (mc2 := 0) (ms2 := 0) (As := []) (rest := [.int 0]) C (m_copied  (List.mem_append_left _ mhL) ((h1a _ mhL).trans mhE) mf42) dL_law_915 kV_L_109 rfl (List.mem_append_left _ mhL) ((h1a _ mhL).trans mhE) ck_13 rfl (Nat.le_of_ble_eq_true rfl) ⟨Nat.le_of_ble_eq_true rfl, Nat.le_of_ble_eq_true rfl⟩ ⟨Nat.le_of_ble_eq_true rfl, Nat.le_of_ble_eq_true rfl⟩ (fun vh2 Lh2 Eh2 h2 => ?_)
  subst h2
  refine q_st (st2 := [.int 0, .int 0]) rfl ?_
  refine q_icmp_eq (tgt := 1377) C dL_law_918 (by decide) (fun _ => ?_) (fun z => absurd rfl z)
  exact law_tail C hr hlk hX hbl (Nat.le_of_ble_eq_true rfl) (Nat.le_of_ble_eq_true rfl)
set_option maxHeartbeats 4000000 in
set_option maxRecDepth 100000 in
theorem law_emboss {p : Program} {l : Launch} {e : Env} {s : State} {m : MethodId} {below : List Frame} {meth : Method} {c : Code} {y : MethodName} {rt : Option FieldType} {G : GT} {b : Nat} {xs : Nat → Int32} (C : Cq p s m #[Value.ref b] meth c cL_law ⟨RL, y.name, y.desc⟩ rt G (fun q => s.heap.size ≤ q) 4) (hr : meth.sig.returnType = ret) (hlk : meth.locks = false) (hX : va_X b 6 xs s s.heap) (hbl : b < s.heap.size) {Lx Lm : List Nat} {E : Nat → va_E} {h0 sh : Nat} {f fs : Nat → Value} (hL : h0 ∈ Lx) (hE : E h0 = ob 12 19 f) (f9 : f 9 = .ref sh) (f16 : f 16 = .int 0) (hLsh : sh ∈ Lx) (hEsh : E sh = ob 8 3 fs) (fs1 : fs 1 = .int 0) {mm : Nat} {mf : Nat → Value} (mhL : mm ∈ Lm) (mhE : E mm = ob 13 67 mf) (mf36 : mf 36 = .int 0) (mf43 : mf 43 = .int 0) : wq p l e room_1 s m #[Value.ref b] below meth c G (fun q => s.heap.size ≤ q) 4 (lw_Z below #[Value.ref b] s) (Lm ++ Lx) E 89 353657 923 [(3, .int 0), (2, .ref mm), (1, .ref h0), (0, .ref b)] [] := by
  have hbA : ¬ (fun q : Nat => s.heap.size ≤ q) b := Nat.not_le.mpr hbl
  refine q_aload_n (j := 2) C dL_law_923 rfl ?_
  refine q_aload_n (j := 3) C dL_law_924 rfl ?_
  refine q_iload_n (j := 0) C dL_law_925 rfl ?_
  refine q_iconst (v := 1) C dL_law_926 (by decide) ?_
  refine q_iadd (v := 1) C dL_law_927 (by decide) ?_
  refine q_sld (v := (xs 1)) C hX hbl hbA dL_law_928 (by unfold vp_in; decide) rfl ?_
  refine q_aload_n (j := 3) C dL_law_929 rfl ?_
  refine q_iload_n (j := 0) C dL_law_930 rfl ?_
  refine q_iconst (v := 2) C dL_law_931 (by decide) ?_
  refine q_iadd (v := 2) C dL_law_932 (by decide) ?_
  refine q_sld (v := (xs 2)) C hX hbl hbA dL_law_933 (by unfold vp_in; decide) rfl ?_
  refine q_subV (d2 := 5) (mc2 := 0) (ms2 := 0) (As := [.int (xs 1), .int (xs 2)]) (rest := []) C (x_emboss (xs 1) (xs 2) hL hE f9 f16 hLsh hEsh fs1) dL_law_934 kV_L_110 rfl hL hE ck_12 rfl (Nat.le_of_ble_eq_true rfl) ⟨Nat.le_of_ble_eq_true rfl, Nat.le_of_ble_eq_true rfl⟩ ⟨Nat.le_of_ble_eq_true rfl, Nat.le_of_ble_eq_true rfl⟩ (fun vh1 Lh1 Eh1 Dh1 h1 h1a h1b h1c => ?_)
  subst h1
  refine q_st (st2 := [.int (an_end (xs 2))]) rfl ?_
  refine q_aload_n (j := 1) C dL_law_937 rfl ?_
  refine q_aload_n (j := 3) C dL_law_938 rfl ?_
  refine q_iload_n (j := 0) C dL_law_939 rfl ?_
  refine q_iconst (v := 1) C dL_law_940 (by decide) ?_
  refine q_iadd (v := 1) C dL_law_941 (by decide) ?_
  refine q_sld (v := (xs 1)) C hX hbl hbA dL_law_942 (by unfold vp_in; decide) rfl ?_
  refine q_aload_n (j := 3) C dL_law_943 rfl ?_
  refine q_iload_n (j := 0) C dL_law_944 rfl ?_
  refine q_iconst (v := 2) C dL_law_945 (by decide) ?_
  refine q_iadd (v := 2) C dL_law_946 (by decide) ?_
  refine q_sld (v := (xs 2)) C hX hbl hbA dL_law_947 (by unfold vp_in; decide) rfl ?_
  refine q_callV (d2 := 4) (mc2 := 0) (ms2 := 0) (As := [.int (xs 1), .int (xs 2)]) (rest := [.int (an_end (xs 2))]) C (m_emboss (xs 1) (xs 2) (List.mem_append_left _ mhL) ((h1a _ mhL).trans mhE) mf36 mf43) dL_law_948 kV_L_113 rfl (List.mem_append_left _ mhL) ((h1a _ mhL).trans mhE) ck_13 rfl (Nat.le_of_ble_eq_true rfl) ⟨Nat.le_of_ble_eq_true rfl, Nat.le_of_ble_eq_true rfl⟩ ⟨Nat.le_of_ble_eq_true rfl, Nat.le_of_ble_eq_true rfl⟩ (fun vh2 Lh2 Eh2 h2 => ?_)
  subst h2
  refine q_st (st2 := [.int (an_end (xs 2)), .int (an_end (xs 2))]) rfl ?_
  refine q_icmp_eq (tgt := 1377) C dL_law_951 (by decide) (fun _ => ?_) (fun z => absurd rfl z)
  exact law_tail C hr hlk hX hbl (Nat.le_of_ble_eq_true rfl) (Nat.le_of_ble_eq_true rfl)
set_option maxHeartbeats 4000000 in
set_option maxRecDepth 100000 in
theorem law_closed {p : Program} {l : Launch} {e : Env} {s : State} {m : MethodId} {below : List Frame} {meth : Method} {c : Code} {y : MethodName} {rt : Option FieldType} {G : GT} {b : Nat} {xs : Nat → Int32} (C : Cq p s m #[Value.ref b] meth c cL_law ⟨RL, y.name, y.desc⟩ rt G (fun q => s.heap.size ≤ q) 4) (hr : meth.sig.returnType = ret) (hlk : meth.locks = false) (hX : va_X b 6 xs s s.heap) (hbl : b < s.heap.size) {Lx Lm : List Nat} {E : Nat → va_E} {h0 : Nat} {f : Nat → Value} (hL : h0 ∈ Lx) (hE : E h0 = ob 12 19 f) (f16 : f 16 = .int 0) {mm : Nat} {mf : Nat → Value} (mhL : mm ∈ Lm) (mhE : E mm = ob 13 67 mf) (mf43 : mf 43 = .int 0) : wq p l e room_1 s m #[Value.ref b] below meth c G (fun q => s.heap.size ≤ q) 4 (lw_Z below #[Value.ref b] s) (Lm ++ Lx) E 89 353657 956 [(3, .int 0), (2, .ref mm), (1, .ref h0), (0, .ref b)] [] := by
  have hbA : ¬ (fun q : Nat => s.heap.size ≤ q) b := Nat.not_le.mpr hbl
  refine q_aload_n (j := 2) C dL_law_956 rfl ?_
  refine q_subV (d2 := 5) (mc2 := 0) (ms2 := 0) (As := []) (rest := []) C (x_closed  hL hE f16) dL_law_957 kV_L_114 rfl hL hE ck_12 rfl (Nat.le_of_ble_eq_true rfl) ⟨Nat.le_of_ble_eq_true rfl, Nat.le_of_ble_eq_true rfl⟩ ⟨Nat.le_of_ble_eq_true rfl, Nat.le_of_ble_eq_true rfl⟩ (fun vh1 Lh1 Eh1 Dh1 h1 h1a h1b h1c => ?_)
  subst h1
  refine q_st (st2 := [.int 0]) rfl ?_
  refine q_aload_n (j := 1) C dL_law_960 rfl ?_
  refine q_callV (d2 := 4) (mc2 := 0) (ms2 := 0) (As := []) (rest := [.int 0]) C (m_closed  (List.mem_append_left _ mhL) ((h1a _ mhL).trans mhE) mf43) dL_law_961 kV_L_117 rfl (List.mem_append_left _ mhL) ((h1a _ mhL).trans mhE) ck_13 rfl (Nat.le_of_ble_eq_true rfl) ⟨Nat.le_of_ble_eq_true rfl, Nat.le_of_ble_eq_true rfl⟩ ⟨Nat.le_of_ble_eq_true rfl, Nat.le_of_ble_eq_true rfl⟩ (fun vh2 Lh2 Eh2 h2 => ?_)
  subst h2
  refine q_st (st2 := [.int 0, .int 0]) rfl ?_
  refine q_icmp_eq (tgt := 1377) C dL_law_964 (by decide) (fun _ => ?_) (fun z => absurd rfl z)
  exact law_tail C hr hlk hX hbl (Nat.le_of_ble_eq_true rfl) (Nat.le_of_ble_eq_true rfl)
set_option maxHeartbeats 4000000 in
set_option maxRecDepth 100000 in
theorem law_read {p : Program} {l : Launch} {e : Env} {s : State} {m : MethodId} {below : List Frame} {meth : Method} {c : Code} {y : MethodName} {rt : Option FieldType} {G : GT} {b : Nat} {xs : Nat → Int32} (C : Cq p s m #[Value.ref b] meth c cL_law ⟨RL, y.name, y.desc⟩ rt G (fun q => s.heap.size ≤ q) 4) (hr : meth.sig.returnType = ret) (hlk : meth.locks = false) (hX : va_X b 6 xs s s.heap) (hbl : b < s.heap.size) {Lx Lm : List Nat} {E : Nat → va_E} {h0 tb md ch : Nat} {f fT fm fc : Nat → Value} (hL : h0 ∈ Lx) (hE : E h0 = ob 12 19 f) (f4 : f 4 = .ref tb) (hLtb : tb ∈ Lx) (hEtb : E tb = ob 11 2 fT) (fT0 : fT 0 = .ref md) (fT1 : fT 1 = .ref ch) (hLmd : md ∈ Lx) (hEmd : E md = ob 0 3 fm) (fm2 : fm 2 = .int 0) (hLch : ch ∈ Lx) (hEch : E ch = ob 0 3 fc) (fc2 : fc 2 = .int 0) {mm : Nat} {mf : Nat → Value} (mhL : mm ∈ Lm) (mhE : E mm = ob 13 67 mf) (mf4 : mf 4 = .int 0) : wq p l e room_1 s m #[Value.ref b] below meth c G (fun q => s.heap.size ≤ q) 4 (lw_Z below #[Value.ref b] s) (Lm ++ Lx) E 89 353657 969 [(3, .int 0), (2, .ref mm), (1, .ref h0), (0, .ref b)] [] := by
  have hbA : ¬ (fun q : Nat => s.heap.size ≤ q) b := Nat.not_le.mpr hbl
  refine q_aload_n (j := 2) C dL_law_969 rfl ?_
  refine q_aload_n (j := 3) C dL_law_970 rfl ?_
  refine q_iload_n (j := 0) C dL_law_971 rfl ?_
  refine q_iconst (v := 1) C dL_law_972 (by decide) ?_
  refine q_iadd (v := 1) C dL_law_973 (by decide) ?_
  refine q_sld (v := (xs 1)) C hX hbl hbA dL_law_974 (by unfold vp_in; decide) rfl ?_
  refine q_aload_n (j := 3) C dL_law_975 rfl ?_
  refine q_iload_n (j := 0) C dL_law_976 rfl ?_
  refine q_iconst (v := 2) C dL_law_977 (by decide) ?_
  refine q_iadd (v := 2) C dL_law_978 (by decide) ?_
  refine q_sld (v := (xs 2)) C hX hbl hbA dL_law_979 (by unfold vp_in; decide) rfl ?_
  refine q_aload_n (j := 3) C dL_law_980 rfl ?_
  refine q_iload_n (j := 0) C dL_law_981 rfl ?_
  refine q_iconst (v := 3) C dL_law_982 (by decide) ?_
  refine q_iadd (v := 3) C dL_law_983 (by decide) ?_
  refine q_sld (v := (xs 3)) C hX hbl hbA dL_law_984 (by unfold vp_in; decide) rfl ?_
  refine q_subV (d2 := 5) (mc2 := 0) (ms2 := 0) (As := [.int (xs 1), .int (xs 2), .int (xs 3)]) (rest := []) C (x_read (xs 1) (xs 2) (xs 3) hL hE f4 hLtb hEtb fT0 fT1 hLmd hEmd fm2 hLch hEch fc2) dL_law_985 kV_L_118 rfl hL hE ck_12 rfl (Nat.le_of_ble_eq_true rfl) ⟨Nat.le_of_ble_eq_true rfl, Nat.le_of_ble_eq_true rfl⟩ ⟨Nat.le_of_ble_eq_true rfl, Nat.le_of_ble_eq_true rfl⟩ (fun vh1 Lh1 Eh1 Dh1 h1 h1a h1b h1c => ?_)
  subst h1
  refine q_st (st2 := [.int (-1)]) rfl ?_
  refine q_aload_n (j := 1) C dL_law_988 rfl ?_
  refine q_aload_n (j := 3) C dL_law_989 rfl ?_
  refine q_iload_n (j := 0) C dL_law_990 rfl ?_
  refine q_iconst (v := 1) C dL_law_991 (by decide) ?_
  refine q_iadd (v := 1) C dL_law_992 (by decide) ?_
  refine q_sld (v := (xs 1)) C hX hbl hbA dL_law_993 (by unfold vp_in; decide) rfl ?_
  refine q_aload_n (j := 3) C dL_law_994 rfl ?_
  refine q_iload_n (j := 0) C dL_law_995 rfl ?_
  refine q_iconst (v := 2) C dL_law_996 (by decide) ?_
  refine q_iadd (v := 2) C dL_law_997 (by decide) ?_
  refine q_sld (v := (xs 2)) C hX hbl hbA dL_law_998 (by unfold vp_in; decide) rfl ?_
  refine q_aload_n (j := 3) C dL_law_999 rfl ?_
  refine q_iload_n (j := 0) C dL_law_1000 rfl ?_
  refine q_iconst (v := 3) C dL_law_1001 (by decide) ?_
  refine q_iadd (v := 3) C dL_law_1002 (by decide) ?_
  refine q_sld (v := (xs 3)) C hX hbl hbA dL_law_1003 (by unfold vp_in; decide) rfl ?_
  refine q_callV (d2 := 4) (mc2 := 0) (ms2 := 0) (As := [.int (xs 1), .int (xs 2), .int (xs 3)]) (rest := [.int (-1)]) C (m_read (xs 1) (xs 2) (xs 3) (List.mem_append_left _ mhL) ((h1a _ mhL).trans mhE) mf4) dL_law_1004 kV_L_121 rfl (List.mem_append_left _ mhL) ((h1a _ mhL).trans mhE) ck_13 rfl (Nat.le_of_ble_eq_true rfl) ⟨Nat.le_of_ble_eq_true rfl, Nat.le_of_ble_eq_true rfl⟩ ⟨Nat.le_of_ble_eq_true rfl, Nat.le_of_ble_eq_true rfl⟩ (fun vh2 Lh2 Eh2 h2 => ?_)
  subst h2
  refine q_st (st2 := [.int (-1), .int (-1)]) rfl ?_
  refine q_icmp_eq (tgt := 1377) C dL_law_1007 (by decide) (fun _ => ?_) (fun z => absurd rfl z)
  exact law_tail C hr hlk hX hbl (Nat.le_of_ble_eq_true rfl) (Nat.le_of_ble_eq_true rfl)
set_option maxHeartbeats 4000000 in
set_option maxRecDepth 100000 in
theorem law_letter {p : Program} {l : Launch} {e : Env} {s : State} {m : MethodId} {below : List Frame} {meth : Method} {c : Code} {y : MethodName} {rt : Option FieldType} {G : GT} {b : Nat} {xs : Nat → Int32} (C : Cq p s m #[Value.ref b] meth c cL_law ⟨RL, y.name, y.desc⟩ rt G (fun q => s.heap.size ≤ q) 4) (hr : meth.sig.returnType = ret) (hlk : meth.locks = false) (hX : va_X b 6 xs s s.heap) (hbl : b < s.heap.size) {Lx Lm : List Nat} {E : Nat → va_E} {h0 br : Nat} {f fb : Nat → Value} (hL : h0 ∈ Lx) (hE : E h0 = ob 12 19 f) (f2 : f 2 = .ref br) (hLbr : br ∈ Lx) (hEbr : E br = ob 2 3 fb) (fb2 : fb 2 = .int 0) {mm : Nat} {mf : Nat → Value} (mhL : mm ∈ Lm) (mhE : E mm = ob 13 67 mf) (mf52 : mf 52 = .int 0) : wq p l e room_1 s m #[Value.ref b] below meth c G (fun q => s.heap.size ≤ q) 4 (lw_Z below #[Value.ref b] s) (Lm ++ Lx) E 89 353657 1012 [(3, .int 0), (2, .ref mm), (1, .ref h0), (0, .ref b)] [] := by
  have hbA : ¬ (fun q : Nat => s.heap.size ≤ q) b := Nat.not_le.mpr hbl
  refine q_aload_n (j := 2) C dL_law_1012 rfl ?_
  refine q_aload_n (j := 3) C dL_law_1013 rfl ?_
  refine q_iload_n (j := 0) C dL_law_1014 rfl ?_
  refine q_iconst (v := 1) C dL_law_1015 (by decide) ?_
  refine q_iadd (v := 1) C dL_law_1016 (by decide) ?_
  refine q_sld (v := (xs 1)) C hX hbl hbA dL_law_1017 (by unfold vp_in; decide) rfl ?_
  refine q_subV (d2 := 5) (mc2 := 0) (ms2 := 0) (As := [.int (xs 1)]) (rest := []) C (x_letter (xs 1) hL hE f2 hLbr hEbr fb2) dL_law_1018 kV_L_122 rfl hL hE ck_12 rfl (Nat.le_of_ble_eq_true rfl) ⟨Nat.le_of_ble_eq_true rfl, Nat.le_of_ble_eq_true rfl⟩ ⟨Nat.le_of_ble_eq_true rfl, Nat.le_of_ble_eq_true rfl⟩ (fun vh1 Lh1 Eh1 Dh1 h1 h1a h1b h1c => ?_)
  subst h1
  refine q_st (st2 := [.int (-1)]) rfl ?_
  refine q_aload_n (j := 1) C dL_law_1021 rfl ?_
  refine q_aload_n (j := 3) C dL_law_1022 rfl ?_
  refine q_iload_n (j := 0) C dL_law_1023 rfl ?_
  refine q_iconst (v := 1) C dL_law_1024 (by decide) ?_
  refine q_iadd (v := 1) C dL_law_1025 (by decide) ?_
  refine q_sld (v := (xs 1)) C hX hbl hbA dL_law_1026 (by unfold vp_in; decide) rfl ?_
  refine q_callV (d2 := 4) (mc2 := 0) (ms2 := 0) (As := [.int (xs 1)]) (rest := [.int (-1)]) C (m_letter (xs 1) (List.mem_append_left _ mhL) ((h1a _ mhL).trans mhE) mf52) dL_law_1027 kV_L_125 rfl (List.mem_append_left _ mhL) ((h1a _ mhL).trans mhE) ck_13 rfl (Nat.le_of_ble_eq_true rfl) ⟨Nat.le_of_ble_eq_true rfl, Nat.le_of_ble_eq_true rfl⟩ ⟨Nat.le_of_ble_eq_true rfl, Nat.le_of_ble_eq_true rfl⟩ (fun vh2 Lh2 Eh2 h2 => ?_)
  subst h2
  refine q_st (st2 := [.int (-1), .int (-1)]) rfl ?_
  refine q_icmp_eq (tgt := 1377) C dL_law_1030 (by decide) (fun _ => ?_) (fun z => absurd rfl z)
  exact law_tail C hr hlk hX hbl (Nat.le_of_ble_eq_true rfl) (Nat.le_of_ble_eq_true rfl)
set_option maxHeartbeats 4000000 in
set_option maxRecDepth 100000 in
theorem law_failed {p : Program} {l : Launch} {e : Env} {s : State} {m : MethodId} {below : List Frame} {meth : Method} {c : Code} {y : MethodName} {rt : Option FieldType} {G : GT} {b : Nat} {xs : Nat → Int32} (C : Cq p s m #[Value.ref b] meth c cL_law ⟨RL, y.name, y.desc⟩ rt G (fun q => s.heap.size ≤ q) 4) (hr : meth.sig.returnType = ret) (hlk : meth.locks = false) (hX : va_X b 6 xs s s.heap) (hbl : b < s.heap.size) {Lx Lm : List Nat} {E : Nat → va_E} {h0 : Nat} {f : Nat → Value} (hL : h0 ∈ Lx) (hE : E h0 = ob 12 19 f) (f14 : f 14 = .int 0) {mm : Nat} {mf : Nat → Value} (mhL : mm ∈ Lm) (mhE : E mm = ob 13 67 mf) (mf56 : mf 56 = .int 0) : wq p l e room_1 s m #[Value.ref b] below meth c G (fun q => s.heap.size ≤ q) 4 (lw_Z below #[Value.ref b] s) (Lm ++ Lx) E 89 353657 1035 [(3, .int 0), (2, .ref mm), (1, .ref h0), (0, .ref b)] [] := by
  have hbA : ¬ (fun q : Nat => s.heap.size ≤ q) b := Nat.not_le.mpr hbl
  refine q_aload_n (j := 2) C dL_law_1035 rfl ?_
  refine q_aload_n (j := 3) C dL_law_1036 rfl ?_
  refine q_iload_n (j := 0) C dL_law_1037 rfl ?_
  refine q_iconst (v := 1) C dL_law_1038 (by decide) ?_
  refine q_iadd (v := 1) C dL_law_1039 (by decide) ?_
  refine q_sld (v := (xs 1)) C hX hbl hbA dL_law_1040 (by unfold vp_in; decide) rfl ?_
  refine q_aload_n (j := 3) C dL_law_1041 rfl ?_
  refine q_iload_n (j := 0) C dL_law_1042 rfl ?_
  refine q_iconst (v := 2) C dL_law_1043 (by decide) ?_
  refine q_iadd (v := 2) C dL_law_1044 (by decide) ?_
  refine q_sld (v := (xs 2)) C hX hbl hbA dL_law_1045 (by unfold vp_in; decide) rfl ?_
  refine q_if_eq (tgt := 1053) C dL_law_1046 (by decide) (fun c1 => ?_) (fun c1 => ?_)
  · refine q_iconst (v := 0) C dL_law_1053 (by decide) ?_
    refine q_subV (d2 := 6) (mc2 := 0) (ms2 := 0) (As := [.int (xs 1), .int 0]) (rest := []) C (x_failed (xs 1) 0 hL hE f14) dL_law_1054 kV_L_126 rfl hL hE ck_12 rfl (Nat.le_of_ble_eq_true rfl) ⟨Nat.le_of_ble_eq_true rfl, Nat.le_of_ble_eq_true rfl⟩ ⟨Nat.le_of_ble_eq_true rfl, Nat.le_of_ble_eq_true rfl⟩ (fun vh1 Lh1 Eh1 Dh1 h1 h1a h1b h1c => ?_)
    subst h1
    refine q_st (st2 := [.int (an_fail (xs 1) 0)]) rfl ?_
    refine q_aload_n (j := 1) C dL_law_1057 rfl ?_
    refine q_aload_n (j := 3) C dL_law_1058 rfl ?_
    refine q_iload_n (j := 0) C dL_law_1059 rfl ?_
    refine q_iconst (v := 1) C dL_law_1060 (by decide) ?_
    refine q_iadd (v := 1) C dL_law_1061 (by decide) ?_
    refine q_sld (v := (xs 1)) C hX hbl hbA dL_law_1062 (by unfold vp_in; decide) rfl ?_
    refine q_aload_n (j := 3) C dL_law_1063 rfl ?_
    refine q_iload_n (j := 0) C dL_law_1064 rfl ?_
    refine q_iconst (v := 2) C dL_law_1065 (by decide) ?_
    refine q_iadd (v := 2) C dL_law_1066 (by decide) ?_
    refine q_sld (v := (xs 2)) C hX hbl hbA dL_law_1067 (by unfold vp_in; decide) rfl ?_
    refine q_if_eq (tgt := 1075) C dL_law_1068 (by decide) (fun _ => ?_) (fun z => absurd c1 z)
    refine q_iconst (v := 0) C dL_law_1075 (by decide) ?_
    refine q_callV (d2 := 4) (mc2 := 0) (ms2 := 0) (As := [.int (xs 1), .int 0]) (rest := [.int (an_fail (xs 1) 0)]) C (m_failed (xs 1) 0 (List.mem_append_left _ mhL) ((h1a _ mhL).trans mhE) mf56) dL_law_1076 kV_L_130 rfl (List.mem_append_left _ mhL) ((h1a _ mhL).trans mhE) ck_13 rfl (Nat.le_of_ble_eq_true rfl) ⟨Nat.le_of_ble_eq_true rfl, Nat.le_of_ble_eq_true rfl⟩ ⟨Nat.le_of_ble_eq_true rfl, Nat.le_of_ble_eq_true rfl⟩ (fun vh2 Lh2 Eh2 h2 => ?_)
    subst h2
    refine q_st (st2 := [.int (an_fail (xs 1) 0), .int (an_fail (xs 1) 0)]) rfl ?_
    refine q_icmp_eq (tgt := 1377) C dL_law_1079 (by decide) (fun _ => ?_) (fun z => absurd rfl z)
    exact law_tail C hr hlk hX hbl (Nat.le_of_ble_eq_true rfl) (Nat.le_of_ble_eq_true rfl)
  · refine q_iconst (v := 1) C dL_law_1049 (by decide) ?_
    refine q_goto (tgt := 1054) C dL_law_1050 (by decide) ?_
    refine q_subV (d2 := 6) (mc2 := 0) (ms2 := 0) (As := [.int (xs 1), .int 1]) (rest := []) C (x_failed (xs 1) 1 hL hE f14) dL_law_1054 kV_L_126 rfl hL hE ck_12 rfl (Nat.le_of_ble_eq_true rfl) ⟨Nat.le_of_ble_eq_true rfl, Nat.le_of_ble_eq_true rfl⟩ ⟨Nat.le_of_ble_eq_true rfl, Nat.le_of_ble_eq_true rfl⟩ (fun vh3 Lh3 Eh3 Dh3 h3 h3a h3b h3c => ?_)
    subst h3
    refine q_st (st2 := [.int (an_fail (xs 1) 1)]) rfl ?_
    refine q_aload_n (j := 1) C dL_law_1057 rfl ?_
    refine q_aload_n (j := 3) C dL_law_1058 rfl ?_
    refine q_iload_n (j := 0) C dL_law_1059 rfl ?_
    refine q_iconst (v := 1) C dL_law_1060 (by decide) ?_
    refine q_iadd (v := 1) C dL_law_1061 (by decide) ?_
    refine q_sld (v := (xs 1)) C hX hbl hbA dL_law_1062 (by unfold vp_in; decide) rfl ?_
    refine q_aload_n (j := 3) C dL_law_1063 rfl ?_
    refine q_iload_n (j := 0) C dL_law_1064 rfl ?_
    refine q_iconst (v := 2) C dL_law_1065 (by decide) ?_
    refine q_iadd (v := 2) C dL_law_1066 (by decide) ?_
    refine q_sld (v := (xs 2)) C hX hbl hbA dL_law_1067 (by unfold vp_in; decide) rfl ?_
    refine q_if_eq (tgt := 1075) C dL_law_1068 (by decide) (fun z => absurd z c1) (fun _ => ?_)
    refine q_iconst (v := 1) C dL_law_1071 (by decide) ?_
    refine q_goto (tgt := 1076) C dL_law_1072 (by decide) ?_
    refine q_callV (d2 := 4) (mc2 := 0) (ms2 := 0) (As := [.int (xs 1), .int 1]) (rest := [.int (an_fail (xs 1) 1)]) C (m_failed (xs 1) 1 (List.mem_append_left _ mhL) ((h3a _ mhL).trans mhE) mf56) dL_law_1076 kV_L_130 rfl (List.mem_append_left _ mhL) ((h3a _ mhL).trans mhE) ck_13 rfl (Nat.le_of_ble_eq_true rfl) ⟨Nat.le_of_ble_eq_true rfl, Nat.le_of_ble_eq_true rfl⟩ ⟨Nat.le_of_ble_eq_true rfl, Nat.le_of_ble_eq_true rfl⟩ (fun vh4 Lh4 Eh4 h4 => ?_)
    subst h4
    refine q_st (st2 := [.int (an_fail (xs 1) 1), .int (an_fail (xs 1) 1)]) rfl ?_
    refine q_icmp_eq (tgt := 1377) C dL_law_1079 (by decide) (fun _ => ?_) (fun z => absurd rfl z)
    exact law_tail C hr hlk hX hbl (Nat.le_of_ble_eq_true rfl) (Nat.le_of_ble_eq_true rfl)
set_option maxHeartbeats 4000000 in
set_option maxRecDepth 100000 in
theorem law_readings {p : Program} {l : Launch} {e : Env} {s : State} {m : MethodId} {below : List Frame} {meth : Method} {c : Code} {y : MethodName} {rt : Option FieldType} {G : GT} {b : Nat} {xs : Nat → Int32} (C : Cq p s m #[Value.ref b] meth c cL_law ⟨RL, y.name, y.desc⟩ rt G (fun q => s.heap.size ≤ q) 4) (hr : meth.sig.returnType = ret) (hlk : meth.locks = false) (hX : va_X b 6 xs s s.heap) (hbl : b < s.heap.size) {Lx Lm : List Nat} {E : Nat → va_E} {h0 tb md ch : Nat} {f fT fm fc : Nat → Value} (hL : h0 ∈ Lx) (hE : E h0 = ob 12 19 f) (f4 : f 4 = .ref tb) (hLtb : tb ∈ Lx) (hEtb : E tb = ob 11 2 fT) (fT0 : fT 0 = .ref md) (fT1 : fT 1 = .ref ch) (hLmd : md ∈ Lx) (hEmd : E md = ob 0 3 fm) (fm2 : fm 2 = .int 0) (hLch : ch ∈ Lx) (hEch : E ch = ob 0 3 fc) (fc2 : fc 2 = .int 0) {mm : Nat} {mf : Nat → Value} (mhL : mm ∈ Lm) (mhE : E mm = ob 13 67 mf) (mf4 : mf 4 = .int 0) : wq p l e room_1 s m #[Value.ref b] below meth c G (fun q => s.heap.size ≤ q) 4 (lw_Z below #[Value.ref b] s) (Lm ++ Lx) E 89 353657 1084 [(3, .int 0), (2, .ref mm), (1, .ref h0), (0, .ref b)] [] := by
  have hbA : ¬ (fun q : Nat => s.heap.size ≤ q) b := Nat.not_le.mpr hbl
  refine q_aload_n (j := 2) C dL_law_1084 rfl ?_
  refine q_aload_n (j := 3) C dL_law_1085 rfl ?_
  refine q_iload_n (j := 0) C dL_law_1086 rfl ?_
  refine q_iconst (v := 1) C dL_law_1087 (by decide) ?_
  refine q_iadd (v := 1) C dL_law_1088 (by decide) ?_
  refine q_sld (v := (xs 1)) C hX hbl hbA dL_law_1089 (by unfold vp_in; decide) rfl ?_
  refine q_aload_n (j := 3) C dL_law_1090 rfl ?_
  refine q_iload_n (j := 0) C dL_law_1091 rfl ?_
  refine q_iconst (v := 2) C dL_law_1092 (by decide) ?_
  refine q_iadd (v := 2) C dL_law_1093 (by decide) ?_
  refine q_sld (v := (xs 2)) C hX hbl hbA dL_law_1094 (by unfold vp_in; decide) rfl ?_
  refine q_aload_n (j := 3) C dL_law_1095 rfl ?_
  refine q_iload_n (j := 0) C dL_law_1096 rfl ?_
  refine q_iconst (v := 3) C dL_law_1097 (by decide) ?_
  refine q_iadd (v := 3) C dL_law_1098 (by decide) ?_
  refine q_sld (v := (xs 3)) C hX hbl hbA dL_law_1099 (by unfold vp_in; decide) rfl ?_
  refine q_subV (d2 := 5) (mc2 := 0) (ms2 := 0) (As := [.int (xs 1), .int (xs 2), .int (xs 3)]) (rest := []) C (x_readings (xs 1) (xs 2) (xs 3) hL hE f4 hLtb hEtb fT0 fT1 hLmd hEmd fm2 hLch hEch fc2) dL_law_1100 kV_L_131 rfl hL hE ck_12 rfl (Nat.le_of_ble_eq_true rfl) ⟨Nat.le_of_ble_eq_true rfl, Nat.le_of_ble_eq_true rfl⟩ ⟨Nat.le_of_ble_eq_true rfl, Nat.le_of_ble_eq_true rfl⟩ (fun vh1 Lh1 Eh1 Dh1 h1 h1a h1b h1c => ?_)
  subst h1
  refine q_st (st2 := [.int (-1)]) rfl ?_
  refine q_aload_n (j := 1) C dL_law_1103 rfl ?_
  refine q_aload_n (j := 3) C dL_law_1104 rfl ?_
  refine q_iload_n (j := 0) C dL_law_1105 rfl ?_
  refine q_iconst (v := 1) C dL_law_1106 (by decide) ?_
  refine q_iadd (v := 1) C dL_law_1107 (by decide) ?_
  refine q_sld (v := (xs 1)) C hX hbl hbA dL_law_1108 (by unfold vp_in; decide) rfl ?_
  refine q_aload_n (j := 3) C dL_law_1109 rfl ?_
  refine q_iload_n (j := 0) C dL_law_1110 rfl ?_
  refine q_iconst (v := 2) C dL_law_1111 (by decide) ?_
  refine q_iadd (v := 2) C dL_law_1112 (by decide) ?_
  refine q_sld (v := (xs 2)) C hX hbl hbA dL_law_1113 (by unfold vp_in; decide) rfl ?_
  refine q_aload_n (j := 3) C dL_law_1114 rfl ?_
  refine q_iload_n (j := 0) C dL_law_1115 rfl ?_
  refine q_iconst (v := 3) C dL_law_1116 (by decide) ?_
  refine q_iadd (v := 3) C dL_law_1117 (by decide) ?_
  refine q_sld (v := (xs 3)) C hX hbl hbA dL_law_1118 (by unfold vp_in; decide) rfl ?_
  refine q_callV (d2 := 4) (mc2 := 0) (ms2 := 0) (As := [.int (xs 1), .int (xs 2), .int (xs 3)]) (rest := [.int (-1)]) C (m_readings (xs 1) (xs 2) (xs 3) (List.mem_append_left _ mhL) ((h1a _ mhL).trans mhE) mf4) dL_law_1119 kV_L_134 rfl (List.mem_append_left _ mhL) ((h1a _ mhL).trans mhE) ck_13 rfl (Nat.le_of_ble_eq_true rfl) ⟨Nat.le_of_ble_eq_true rfl, Nat.le_of_ble_eq_true rfl⟩ ⟨Nat.le_of_ble_eq_true rfl, Nat.le_of_ble_eq_true rfl⟩ (fun vh2 Lh2 Eh2 h2 => ?_)
  subst h2
  refine q_st (st2 := [.int (-1), .int (-1)]) rfl ?_
  refine q_icmp_eq (tgt := 1377) C dL_law_1122 (by decide) (fun _ => ?_) (fun z => absurd rfl z)
  exact law_tail C hr hlk hX hbl (Nat.le_of_ble_eq_true rfl) (Nat.le_of_ble_eq_true rfl)
set_option maxHeartbeats 4000000 in
set_option maxRecDepth 100000 in
theorem law_more {p : Program} {l : Launch} {e : Env} {s : State} {m : MethodId} {below : List Frame} {meth : Method} {c : Code} {y : MethodName} {rt : Option FieldType} {G : GT} {b : Nat} {xs : Nat → Int32} (C : Cq p s m #[Value.ref b] meth c cL_law ⟨RL, y.name, y.desc⟩ rt G (fun q => s.heap.size ≤ q) 4) (hr : meth.sig.returnType = ret) (hlk : meth.locks = false) (hX : va_X b 6 xs s s.heap) (hbl : b < s.heap.size) {Lx Lm : List Nat} {E : Nat → va_E} {h0 fo : Nat} {f ff : Nat → Value} (hL : h0 ∈ Lx) (hE : E h0 = ob 12 19 f) (f8 : f 8 = .ref fo) (hLfo : fo ∈ Lx) (hEfo : E fo = ob 5 11 ff) (ff6 : ff 6 = .int 0) {mm : Nat} {mf : Nat → Value} (mhL : mm ∈ Lm) (mhE : E mm = ob 13 67 mf) (mf61 : mf 61 = .int 0) : wq p l e room_1 s m #[Value.ref b] below meth c G (fun q => s.heap.size ≤ q) 4 (lw_Z below #[Value.ref b] s) (Lm ++ Lx) E 89 353657 1127 [(3, .int 0), (2, .ref mm), (1, .ref h0), (0, .ref b)] [] := by
  have hbA : ¬ (fun q : Nat => s.heap.size ≤ q) b := Nat.not_le.mpr hbl
  refine q_aload_n (j := 2) C dL_law_1127 rfl ?_
  refine q_subV (d2 := 5) (mc2 := 0) (ms2 := 0) (As := []) (rest := []) C (x_more  hL hE f8 hLfo hEfo ff6) dL_law_1128 kV_L_135 rfl hL hE ck_12 rfl (Nat.le_of_ble_eq_true rfl) ⟨Nat.le_of_ble_eq_true rfl, Nat.le_of_ble_eq_true rfl⟩ ⟨Nat.le_of_ble_eq_true rfl, Nat.le_of_ble_eq_true rfl⟩ (fun vh1 Lh1 Eh1 Dh1 h1 h1a h1b h1c => ?_)
  subst h1
  refine q_st (st2 := [.int 0]) rfl ?_
  refine q_aload_n (j := 1) C dL_law_1131 rfl ?_
  refine q_callV (d2 := 4) (mc2 := 0) (ms2 := 0) (As := []) (rest := [.int 0]) C (m_more  (List.mem_append_left _ mhL) ((h1a _ mhL).trans mhE) mf61) dL_law_1132 kV_L_138 rfl (List.mem_append_left _ mhL) ((h1a _ mhL).trans mhE) ck_13 rfl (Nat.le_of_ble_eq_true rfl) ⟨Nat.le_of_ble_eq_true rfl, Nat.le_of_ble_eq_true rfl⟩ ⟨Nat.le_of_ble_eq_true rfl, Nat.le_of_ble_eq_true rfl⟩ (fun vh2 Lh2 Eh2 h2 => ?_)
  subst h2
  refine q_st (st2 := [.int 0, .int 0]) rfl ?_
  refine q_icmp_eq (tgt := 1377) C dL_law_1135 (by decide) (fun _ => ?_) (fun z => absurd rfl z)
  exact law_tail C hr hlk hX hbl (Nat.le_of_ble_eq_true rfl) (Nat.le_of_ble_eq_true rfl)
set_option maxHeartbeats 4000000 in
set_option maxRecDepth 100000 in
theorem law_reading {p : Program} {l : Launch} {e : Env} {s : State} {m : MethodId} {below : List Frame} {meth : Method} {c : Code} {y : MethodName} {rt : Option FieldType} {G : GT} {b : Nat} {xs : Nat → Int32} (C : Cq p s m #[Value.ref b] meth c cL_law ⟨RL, y.name, y.desc⟩ rt G (fun q => s.heap.size ≤ q) 4) (hr : meth.sig.returnType = ret) (hlk : meth.locks = false) (hX : va_X b 6 xs s s.heap) (hbl : b < s.heap.size) {Lx Lm : List Nat} {E : Nat → va_E} {h0 fo : Nat} {f ff : Nat → Value} (hL : h0 ∈ Lx) (hE : E h0 = ob 12 19 f) (f8 : f 8 = .ref fo) (hLfo : fo ∈ Lx) (hEfo : E fo = ob 5 11 ff) (ff5 : ff 5 = .int 0) {mm : Nat} {mf : Nat → Value} (mhL : mm ∈ Lm) (mhE : E mm = ob 13 67 mf) (mf60 : mf 60 = .int 0) : wq p l e room_1 s m #[Value.ref b] below meth c G (fun q => s.heap.size ≤ q) 4 (lw_Z below #[Value.ref b] s) (Lm ++ Lx) E 89 353657 1140 [(3, .int 0), (2, .ref mm), (1, .ref h0), (0, .ref b)] [] := by
  have hbA : ¬ (fun q : Nat => s.heap.size ≤ q) b := Nat.not_le.mpr hbl
  refine q_aload_n (j := 2) C dL_law_1140 rfl ?_
  refine q_aload_n (j := 3) C dL_law_1141 rfl ?_
  refine q_iload_n (j := 0) C dL_law_1142 rfl ?_
  refine q_iconst (v := 1) C dL_law_1143 (by decide) ?_
  refine q_iadd (v := 1) C dL_law_1144 (by decide) ?_
  refine q_sld (v := (xs 1)) C hX hbl hbA dL_law_1145 (by unfold vp_in; decide) rfl ?_
  refine q_aload_n (j := 3) C dL_law_1146 rfl ?_
  refine q_iload_n (j := 0) C dL_law_1147 rfl ?_
  refine q_iconst (v := 2) C dL_law_1148 (by decide) ?_
  refine q_iadd (v := 2) C dL_law_1149 (by decide) ?_
  refine q_sld (v := (xs 2)) C hX hbl hbA dL_law_1150 (by unfold vp_in; decide) rfl ?_
  refine q_subV (d2 := 5) (mc2 := 0) (ms2 := 0) (As := [.int (xs 1), .int (xs 2)]) (rest := []) C (x_reading (xs 1) (xs 2) hL hE f8 hLfo hEfo ff5) dL_law_1151 kV_L_139 rfl hL hE ck_12 rfl (Nat.le_of_ble_eq_true rfl) ⟨Nat.le_of_ble_eq_true rfl, Nat.le_of_ble_eq_true rfl⟩ ⟨Nat.le_of_ble_eq_true rfl, Nat.le_of_ble_eq_true rfl⟩ (fun vh1 Lh1 Eh1 Dh1 h1 h1a h1b h1c => ?_)
  subst h1
  refine q_st (st2 := [.int (-1)]) rfl ?_
  refine q_aload_n (j := 1) C dL_law_1154 rfl ?_
  refine q_aload_n (j := 3) C dL_law_1155 rfl ?_
  refine q_iload_n (j := 0) C dL_law_1156 rfl ?_
  refine q_iconst (v := 1) C dL_law_1157 (by decide) ?_
  refine q_iadd (v := 1) C dL_law_1158 (by decide) ?_
  refine q_sld (v := (xs 1)) C hX hbl hbA dL_law_1159 (by unfold vp_in; decide) rfl ?_
  refine q_aload_n (j := 3) C dL_law_1160 rfl ?_
  refine q_iload_n (j := 0) C dL_law_1161 rfl ?_
  refine q_iconst (v := 2) C dL_law_1162 (by decide) ?_
  refine q_iadd (v := 2) C dL_law_1163 (by decide) ?_
  refine q_sld (v := (xs 2)) C hX hbl hbA dL_law_1164 (by unfold vp_in; decide) rfl ?_
  refine q_callV (d2 := 4) (mc2 := 0) (ms2 := 0) (As := [.int (xs 1), .int (xs 2)]) (rest := [.int (-1)]) C (m_reading (xs 1) (xs 2) (List.mem_append_left _ mhL) ((h1a _ mhL).trans mhE) mf60) dL_law_1165 kV_L_142 rfl (List.mem_append_left _ mhL) ((h1a _ mhL).trans mhE) ck_13 rfl (Nat.le_of_ble_eq_true rfl) ⟨Nat.le_of_ble_eq_true rfl, Nat.le_of_ble_eq_true rfl⟩ ⟨Nat.le_of_ble_eq_true rfl, Nat.le_of_ble_eq_true rfl⟩ (fun vh2 Lh2 Eh2 h2 => ?_)
  subst h2
  refine q_st (st2 := [.int (-1), .int (-1)]) rfl ?_
  refine q_icmp_eq (tgt := 1377) C dL_law_1168 (by decide) (fun _ => ?_) (fun z => absurd rfl z)
  exact law_tail C hr hlk hX hbl (Nat.le_of_ble_eq_true rfl) (Nat.le_of_ble_eq_true rfl)
set_option maxHeartbeats 4000000 in
set_option maxRecDepth 100000 in
theorem law_judge {p : Program} {l : Launch} {e : Env} {s : State} {m : MethodId} {below : List Frame} {meth : Method} {c : Code} {y : MethodName} {rt : Option FieldType} {G : GT} {b : Nat} {xs : Nat → Int32} (C : Cq p s m #[Value.ref b] meth c cL_law ⟨RL, y.name, y.desc⟩ rt G (fun q => s.heap.size ≤ q) 4) (hr : meth.sig.returnType = ret) (hlk : meth.locks = false) (hX : va_X b 6 xs s s.heap) (hbl : b < s.heap.size) {Lx Lm : List Nat} {E : Nat → va_E} {h0 tb md ch : Nat} {f fT fm fc : Nat → Value} (hL : h0 ∈ Lx) (hE : E h0 = ob 12 19 f) (f4 : f 4 = .ref tb) (hLtb : tb ∈ Lx) (hEtb : E tb = ob 11 2 fT) (fT0 : fT 0 = .ref md) (fT1 : fT 1 = .ref ch) (hLmd : md ∈ Lx) (hEmd : E md = ob 0 3 fm) (fm2 : fm 2 = .int 0) (hLch : ch ∈ Lx) (hEch : E ch = ob 0 3 fc) (fc2 : fc 2 = .int 0) {mm : Nat} {mf : Nat → Value} (mhL : mm ∈ Lm) (mhE : E mm = ob 13 67 mf) (mf4 : mf 4 = .int 0) : wq p l e room_1 s m #[Value.ref b] below meth c G (fun q => s.heap.size ≤ q) 4 (lw_Z below #[Value.ref b] s) (Lm ++ Lx) E 89 353657 1173 [(3, .int 0), (2, .ref mm), (1, .ref h0), (0, .ref b)] [] := by
  have hbA : ¬ (fun q : Nat => s.heap.size ≤ q) b := Nat.not_le.mpr hbl
  refine q_aload_n (j := 2) C dL_law_1173 rfl ?_
  refine q_aload_n (j := 3) C dL_law_1174 rfl ?_
  refine q_iload_n (j := 0) C dL_law_1175 rfl ?_
  refine q_iconst (v := 1) C dL_law_1176 (by decide) ?_
  refine q_iadd (v := 1) C dL_law_1177 (by decide) ?_
  refine q_sld (v := (xs 1)) C hX hbl hbA dL_law_1178 (by unfold vp_in; decide) rfl ?_
  refine q_subV (d2 := 5) (mc2 := 0) (ms2 := 0) (As := [.int (xs 1)]) (rest := []) C (x_judge (xs 1) hL hE f4 hLtb hEtb fT0 fT1 hLmd hEmd fm2 hLch hEch fc2) dL_law_1179 kV_L_143 rfl hL hE ck_12 rfl (Nat.le_of_ble_eq_true rfl) ⟨Nat.le_of_ble_eq_true rfl, Nat.le_of_ble_eq_true rfl⟩ ⟨Nat.le_of_ble_eq_true rfl, Nat.le_of_ble_eq_true rfl⟩ (fun vh1 Lh1 Eh1 Dh1 h1 h1a h1b h1c => ?_)
  subst h1
  refine q_st (st2 := [.int (-1)]) rfl ?_
  refine q_aload_n (j := 1) C dL_law_1182 rfl ?_
  refine q_aload_n (j := 3) C dL_law_1183 rfl ?_
  refine q_iload_n (j := 0) C dL_law_1184 rfl ?_
  refine q_iconst (v := 1) C dL_law_1185 (by decide) ?_
  refine q_iadd (v := 1) C dL_law_1186 (by decide) ?_
  refine q_sld (v := (xs 1)) C hX hbl hbA dL_law_1187 (by unfold vp_in; decide) rfl ?_
  refine q_callV (d2 := 4) (mc2 := 0) (ms2 := 0) (As := [.int (xs 1)]) (rest := [.int (-1)]) C (m_judge (xs 1) (List.mem_append_left _ mhL) ((h1a _ mhL).trans mhE) mf4) dL_law_1188 kV_L_146 rfl (List.mem_append_left _ mhL) ((h1a _ mhL).trans mhE) ck_13 rfl (Nat.le_of_ble_eq_true rfl) ⟨Nat.le_of_ble_eq_true rfl, Nat.le_of_ble_eq_true rfl⟩ ⟨Nat.le_of_ble_eq_true rfl, Nat.le_of_ble_eq_true rfl⟩ (fun vh2 Lh2 Eh2 h2 => ?_)
  subst h2
  refine q_st (st2 := [.int (-1), .int (-1)]) rfl ?_
  refine q_icmp_eq (tgt := 1377) C dL_law_1191 (by decide) (fun _ => ?_) (fun z => absurd rfl z)
  exact law_tail C hr hlk hX hbl (Nat.le_of_ble_eq_true rfl) (Nat.le_of_ble_eq_true rfl)
set_option maxHeartbeats 4000000 in
set_option maxRecDepth 100000 in
theorem law_parts {p : Program} {l : Launch} {e : Env} {s : State} {m : MethodId} {below : List Frame} {meth : Method} {c : Code} {y : MethodName} {rt : Option FieldType} {G : GT} {b : Nat} {xs : Nat → Int32} (C : Cq p s m #[Value.ref b] meth c cL_law ⟨RL, y.name, y.desc⟩ rt G (fun q => s.heap.size ≤ q) 4) (hr : meth.sig.returnType = ret) (hlk : meth.locks = false) (hX : va_X b 6 xs s s.heap) (hbl : b < s.heap.size) {Lx Lm : List Nat} {E : Nat → va_E} {h0 tb md ch : Nat} {f fT fm fc : Nat → Value} (hL : h0 ∈ Lx) (hE : E h0 = ob 12 19 f) (f4 : f 4 = .ref tb) (hLtb : tb ∈ Lx) (hEtb : E tb = ob 11 2 fT) (fT0 : fT 0 = .ref md) (fT1 : fT 1 = .ref ch) (hLmd : md ∈ Lx) (hEmd : E md = ob 0 3 fm) (fm2 : fm 2 = .int 0) (hLch : ch ∈ Lx) (hEch : E ch = ob 0 3 fc) (fc2 : fc 2 = .int 0) {mm : Nat} {mf : Nat → Value} (mhL : mm ∈ Lm) (mhE : E mm = ob 13 67 mf) (mf4 : mf 4 = .int 0) : wq p l e room_1 s m #[Value.ref b] below meth c G (fun q => s.heap.size ≤ q) 4 (lw_Z below #[Value.ref b] s) (Lm ++ Lx) E 89 353657 1196 [(3, .int 0), (2, .ref mm), (1, .ref h0), (0, .ref b)] [] := by
  have hbA : ¬ (fun q : Nat => s.heap.size ≤ q) b := Nat.not_le.mpr hbl
  refine q_aload_n (j := 2) C dL_law_1196 rfl ?_
  refine q_aload_n (j := 3) C dL_law_1197 rfl ?_
  refine q_iload_n (j := 0) C dL_law_1198 rfl ?_
  refine q_iconst (v := 1) C dL_law_1199 (by decide) ?_
  refine q_iadd (v := 1) C dL_law_1200 (by decide) ?_
  refine q_sld (v := (xs 1)) C hX hbl hbA dL_law_1201 (by unfold vp_in; decide) rfl ?_
  refine q_aload_n (j := 3) C dL_law_1202 rfl ?_
  refine q_iload_n (j := 0) C dL_law_1203 rfl ?_
  refine q_iconst (v := 2) C dL_law_1204 (by decide) ?_
  refine q_iadd (v := 2) C dL_law_1205 (by decide) ?_
  refine q_sld (v := (xs 2)) C hX hbl hbA dL_law_1206 (by unfold vp_in; decide) rfl ?_
  refine q_aload_n (j := 3) C dL_law_1207 rfl ?_
  refine q_iload_n (j := 0) C dL_law_1208 rfl ?_
  refine q_iconst (v := 3) C dL_law_1209 (by decide) ?_
  refine q_iadd (v := 3) C dL_law_1210 (by decide) ?_
  refine q_sld (v := (xs 3)) C hX hbl hbA dL_law_1211 (by unfold vp_in; decide) rfl ?_
  refine q_subV (d2 := 5) (mc2 := 0) (ms2 := 0) (As := [.int (xs 1), .int (xs 2), .int (xs 3)]) (rest := []) C (x_parts (xs 1) (xs 2) (xs 3) hL hE f4 hLtb hEtb fT0 fT1 hLmd hEmd fm2 hLch hEch fc2) dL_law_1212 kV_L_147 rfl hL hE ck_12 rfl (Nat.le_of_ble_eq_true rfl) ⟨Nat.le_of_ble_eq_true rfl, Nat.le_of_ble_eq_true rfl⟩ ⟨Nat.le_of_ble_eq_true rfl, Nat.le_of_ble_eq_true rfl⟩ (fun vh1 Lh1 Eh1 Dh1 h1 h1a h1b h1c => ?_)
  subst h1
  refine q_st (st2 := [.int (-1)]) rfl ?_
  refine q_aload_n (j := 1) C dL_law_1215 rfl ?_
  refine q_aload_n (j := 3) C dL_law_1216 rfl ?_
  refine q_iload_n (j := 0) C dL_law_1217 rfl ?_
  refine q_iconst (v := 1) C dL_law_1218 (by decide) ?_
  refine q_iadd (v := 1) C dL_law_1219 (by decide) ?_
  refine q_sld (v := (xs 1)) C hX hbl hbA dL_law_1220 (by unfold vp_in; decide) rfl ?_
  refine q_aload_n (j := 3) C dL_law_1221 rfl ?_
  refine q_iload_n (j := 0) C dL_law_1222 rfl ?_
  refine q_iconst (v := 2) C dL_law_1223 (by decide) ?_
  refine q_iadd (v := 2) C dL_law_1224 (by decide) ?_
  refine q_sld (v := (xs 2)) C hX hbl hbA dL_law_1225 (by unfold vp_in; decide) rfl ?_
  refine q_aload_n (j := 3) C dL_law_1226 rfl ?_
  refine q_iload_n (j := 0) C dL_law_1227 rfl ?_
  refine q_iconst (v := 3) C dL_law_1228 (by decide) ?_
  refine q_iadd (v := 3) C dL_law_1229 (by decide) ?_
  refine q_sld (v := (xs 3)) C hX hbl hbA dL_law_1230 (by unfold vp_in; decide) rfl ?_
  refine q_callV (d2 := 4) (mc2 := 0) (ms2 := 0) (As := [.int (xs 1), .int (xs 2), .int (xs 3)]) (rest := [.int (-1)]) C (m_parts (xs 1) (xs 2) (xs 3) (List.mem_append_left _ mhL) ((h1a _ mhL).trans mhE) mf4) dL_law_1231 kV_L_150 rfl (List.mem_append_left _ mhL) ((h1a _ mhL).trans mhE) ck_13 rfl (Nat.le_of_ble_eq_true rfl) ⟨Nat.le_of_ble_eq_true rfl, Nat.le_of_ble_eq_true rfl⟩ ⟨Nat.le_of_ble_eq_true rfl, Nat.le_of_ble_eq_true rfl⟩ (fun vh2 Lh2 Eh2 h2 => ?_)
  subst h2
  refine q_st (st2 := [.int (-1), .int (-1)]) rfl ?_
  refine q_icmp_eq (tgt := 1377) C dL_law_1234 (by decide) (fun _ => ?_) (fun z => absurd rfl z)
  exact law_tail C hr hlk hX hbl (Nat.le_of_ble_eq_true rfl) (Nat.le_of_ble_eq_true rfl)
set_option maxHeartbeats 4000000 in
set_option maxRecDepth 100000 in
theorem law_unreadable {p : Program} {l : Launch} {e : Env} {s : State} {m : MethodId} {below : List Frame} {meth : Method} {c : Code} {y : MethodName} {rt : Option FieldType} {G : GT} {b : Nat} {xs : Nat → Int32} (C : Cq p s m #[Value.ref b] meth c cL_law ⟨RL, y.name, y.desc⟩ rt G (fun q => s.heap.size ≤ q) 4) (hr : meth.sig.returnType = ret) (hlk : meth.locks = false) (hX : va_X b 6 xs s s.heap) (hbl : b < s.heap.size) {Lx Lm : List Nat} {E : Nat → va_E} {h0 tb md ch : Nat} {f fT fm fc : Nat → Value} (hL : h0 ∈ Lx) (hE : E h0 = ob 12 19 f) (f4 : f 4 = .ref tb) (hLtb : tb ∈ Lx) (hEtb : E tb = ob 11 2 fT) (fT0 : fT 0 = .ref md) (fT1 : fT 1 = .ref ch) (hLmd : md ∈ Lx) (hEmd : E md = ob 0 3 fm) (fm2 : fm 2 = .int 0) (hLch : ch ∈ Lx) (hEch : E ch = ob 0 3 fc) (fc2 : fc 2 = .int 0) {mm : Nat} {mf : Nat → Value} (mhL : mm ∈ Lm) (mhE : E mm = ob 13 67 mf) (mf4 : mf 4 = .int 0) : wq p l e room_1 s m #[Value.ref b] below meth c G (fun q => s.heap.size ≤ q) 4 (lw_Z below #[Value.ref b] s) (Lm ++ Lx) E 89 353657 1239 [(3, .int 0), (2, .ref mm), (1, .ref h0), (0, .ref b)] [] := by
  have hbA : ¬ (fun q : Nat => s.heap.size ≤ q) b := Nat.not_le.mpr hbl
  refine q_aload_n (j := 2) C dL_law_1239 rfl ?_
  refine q_aload_n (j := 3) C dL_law_1240 rfl ?_
  refine q_iload_n (j := 0) C dL_law_1241 rfl ?_
  refine q_iconst (v := 1) C dL_law_1242 (by decide) ?_
  refine q_iadd (v := 1) C dL_law_1243 (by decide) ?_
  refine q_sld (v := (xs 1)) C hX hbl hbA dL_law_1244 (by unfold vp_in; decide) rfl ?_
  refine q_aload_n (j := 3) C dL_law_1245 rfl ?_
  refine q_iload_n (j := 0) C dL_law_1246 rfl ?_
  refine q_iconst (v := 2) C dL_law_1247 (by decide) ?_
  refine q_iadd (v := 2) C dL_law_1248 (by decide) ?_
  refine q_sld (v := (xs 2)) C hX hbl hbA dL_law_1249 (by unfold vp_in; decide) rfl ?_
  refine q_aload_n (j := 3) C dL_law_1250 rfl ?_
  refine q_iload_n (j := 0) C dL_law_1251 rfl ?_
  refine q_iconst (v := 3) C dL_law_1252 (by decide) ?_
  refine q_iadd (v := 3) C dL_law_1253 (by decide) ?_
  refine q_sld (v := (xs 3)) C hX hbl hbA dL_law_1254 (by unfold vp_in; decide) rfl ?_
  refine q_subV (d2 := 5) (mc2 := 0) (ms2 := 0) (As := [.int (xs 1), .int (xs 2), .int (xs 3)]) (rest := []) C (x_unreadable (xs 1) (xs 2) (xs 3) hL hE f4 hLtb hEtb fT0 fT1 hLmd hEmd fm2 hLch hEch fc2) dL_law_1255 kV_L_151 rfl hL hE ck_12 rfl (Nat.le_of_ble_eq_true rfl) ⟨Nat.le_of_ble_eq_true rfl, Nat.le_of_ble_eq_true rfl⟩ ⟨Nat.le_of_ble_eq_true rfl, Nat.le_of_ble_eq_true rfl⟩ (fun vh1 Lh1 Eh1 Dh1 h1 h1a h1b h1c => ?_)
  subst h1
  refine q_st (st2 := [.int (-1)]) rfl ?_
  refine q_aload_n (j := 1) C dL_law_1258 rfl ?_
  refine q_aload_n (j := 3) C dL_law_1259 rfl ?_
  refine q_iload_n (j := 0) C dL_law_1260 rfl ?_
  refine q_iconst (v := 1) C dL_law_1261 (by decide) ?_
  refine q_iadd (v := 1) C dL_law_1262 (by decide) ?_
  refine q_sld (v := (xs 1)) C hX hbl hbA dL_law_1263 (by unfold vp_in; decide) rfl ?_
  refine q_aload_n (j := 3) C dL_law_1264 rfl ?_
  refine q_iload_n (j := 0) C dL_law_1265 rfl ?_
  refine q_iconst (v := 2) C dL_law_1266 (by decide) ?_
  refine q_iadd (v := 2) C dL_law_1267 (by decide) ?_
  refine q_sld (v := (xs 2)) C hX hbl hbA dL_law_1268 (by unfold vp_in; decide) rfl ?_
  refine q_aload_n (j := 3) C dL_law_1269 rfl ?_
  refine q_iload_n (j := 0) C dL_law_1270 rfl ?_
  refine q_iconst (v := 3) C dL_law_1271 (by decide) ?_
  refine q_iadd (v := 3) C dL_law_1272 (by decide) ?_
  refine q_sld (v := (xs 3)) C hX hbl hbA dL_law_1273 (by unfold vp_in; decide) rfl ?_
  refine q_callV (d2 := 4) (mc2 := 0) (ms2 := 0) (As := [.int (xs 1), .int (xs 2), .int (xs 3)]) (rest := [.int (-1)]) C (m_unreadable (xs 1) (xs 2) (xs 3) (List.mem_append_left _ mhL) ((h1a _ mhL).trans mhE) mf4) dL_law_1274 kV_L_154 rfl (List.mem_append_left _ mhL) ((h1a _ mhL).trans mhE) ck_13 rfl (Nat.le_of_ble_eq_true rfl) ⟨Nat.le_of_ble_eq_true rfl, Nat.le_of_ble_eq_true rfl⟩ ⟨Nat.le_of_ble_eq_true rfl, Nat.le_of_ble_eq_true rfl⟩ (fun vh2 Lh2 Eh2 h2 => ?_)
  subst h2
  refine q_st (st2 := [.int (-1), .int (-1)]) rfl ?_
  refine q_icmp_eq (tgt := 1377) C dL_law_1277 (by decide) (fun _ => ?_) (fun z => absurd rfl z)
  exact law_tail C hr hlk hX hbl (Nat.le_of_ble_eq_true rfl) (Nat.le_of_ble_eq_true rfl)
set_option maxHeartbeats 4000000 in
set_option maxRecDepth 100000 in
theorem law_saved {p : Program} {l : Launch} {e : Env} {s : State} {m : MethodId} {below : List Frame} {meth : Method} {c : Code} {y : MethodName} {rt : Option FieldType} {G : GT} {b : Nat} {xs : Nat → Int32} (C : Cq p s m #[Value.ref b] meth c cL_law ⟨RL, y.name, y.desc⟩ rt G (fun q => s.heap.size ≤ q) 4) (hr : meth.sig.returnType = ret) (hlk : meth.locks = false) (hX : va_X b 6 xs s s.heap) (hbl : b < s.heap.size) {Lx Lm : List Nat} {E : Nat → va_E} {h0 tb md ch : Nat} {f fT fm fc : Nat → Value} (hL : h0 ∈ Lx) (hE : E h0 = ob 12 19 f) (f4 : f 4 = .ref tb) (hLtb : tb ∈ Lx) (hEtb : E tb = ob 11 2 fT) (fT0 : fT 0 = .ref md) (fT1 : fT 1 = .ref ch) (hLmd : md ∈ Lx) (hEmd : E md = ob 0 3 fm) (fm2 : fm 2 = .int 0) (hLch : ch ∈ Lx) (hEch : E ch = ob 0 3 fc) (fc2 : fc 2 = .int 0) {mm : Nat} {mf : Nat → Value} (mhL : mm ∈ Lm) (mhE : E mm = ob 13 67 mf) (mf4 : mf 4 = .int 0) : wq p l e room_1 s m #[Value.ref b] below meth c G (fun q => s.heap.size ≤ q) 4 (lw_Z below #[Value.ref b] s) (Lm ++ Lx) E 89 353657 1282 [(3, .int 0), (2, .ref mm), (1, .ref h0), (0, .ref b)] [] := by
  have hbA : ¬ (fun q : Nat => s.heap.size ≤ q) b := Nat.not_le.mpr hbl
  refine q_aload_n (j := 2) C dL_law_1282 rfl ?_
  refine q_aload_n (j := 3) C dL_law_1283 rfl ?_
  refine q_iload_n (j := 0) C dL_law_1284 rfl ?_
  refine q_iconst (v := 1) C dL_law_1285 (by decide) ?_
  refine q_iadd (v := 1) C dL_law_1286 (by decide) ?_
  refine q_sld (v := (xs 1)) C hX hbl hbA dL_law_1287 (by unfold vp_in; decide) rfl ?_
  refine q_aload_n (j := 3) C dL_law_1288 rfl ?_
  refine q_iload_n (j := 0) C dL_law_1289 rfl ?_
  refine q_iconst (v := 2) C dL_law_1290 (by decide) ?_
  refine q_iadd (v := 2) C dL_law_1291 (by decide) ?_
  refine q_sld (v := (xs 2)) C hX hbl hbA dL_law_1292 (by unfold vp_in; decide) rfl ?_
  refine q_subV (d2 := 5) (mc2 := 0) (ms2 := 0) (As := [.int (xs 1), .int (xs 2)]) (rest := []) C (x_saved (xs 1) (xs 2) hL hE f4 hLtb hEtb fT0 fT1 hLmd hEmd fm2 hLch hEch fc2) dL_law_1293 kV_L_155 rfl hL hE ck_12 rfl (Nat.le_of_ble_eq_true rfl) ⟨Nat.le_of_ble_eq_true rfl, Nat.le_of_ble_eq_true rfl⟩ ⟨Nat.le_of_ble_eq_true rfl, Nat.le_of_ble_eq_true rfl⟩ (fun vh1 Lh1 Eh1 Dh1 h1 h1a h1b h1c => ?_)
  subst h1
  refine q_st (st2 := [.int (-1)]) rfl ?_
  refine q_aload_n (j := 1) C dL_law_1296 rfl ?_
  refine q_aload_n (j := 3) C dL_law_1297 rfl ?_
  refine q_iload_n (j := 0) C dL_law_1298 rfl ?_
  refine q_iconst (v := 1) C dL_law_1299 (by decide) ?_
  refine q_iadd (v := 1) C dL_law_1300 (by decide) ?_
  refine q_sld (v := (xs 1)) C hX hbl hbA dL_law_1301 (by unfold vp_in; decide) rfl ?_
  refine q_aload_n (j := 3) C dL_law_1302 rfl ?_
  refine q_iload_n (j := 0) C dL_law_1303 rfl ?_
  refine q_iconst (v := 2) C dL_law_1304 (by decide) ?_
  refine q_iadd (v := 2) C dL_law_1305 (by decide) ?_
  refine q_sld (v := (xs 2)) C hX hbl hbA dL_law_1306 (by unfold vp_in; decide) rfl ?_
  refine q_callV (d2 := 4) (mc2 := 0) (ms2 := 0) (As := [.int (xs 1), .int (xs 2)]) (rest := [.int (-1)]) C (m_saved (xs 1) (xs 2) (List.mem_append_left _ mhL) ((h1a _ mhL).trans mhE) mf4) dL_law_1307 kV_L_158 rfl (List.mem_append_left _ mhL) ((h1a _ mhL).trans mhE) ck_13 rfl (Nat.le_of_ble_eq_true rfl) ⟨Nat.le_of_ble_eq_true rfl, Nat.le_of_ble_eq_true rfl⟩ ⟨Nat.le_of_ble_eq_true rfl, Nat.le_of_ble_eq_true rfl⟩ (fun vh2 Lh2 Eh2 h2 => ?_)
  subst h2
  refine q_st (st2 := [.int (-1), .int (-1)]) rfl ?_
  refine q_icmp_eq (tgt := 1377) C dL_law_1310 (by decide) (fun _ => ?_) (fun z => absurd rfl z)
  exact law_tail C hr hlk hX hbl (Nat.le_of_ble_eq_true rfl) (Nat.le_of_ble_eq_true rfl)
set_option maxHeartbeats 4000000 in
set_option maxRecDepth 100000 in
theorem law_place {p : Program} {l : Launch} {e : Env} {s : State} {m : MethodId} {below : List Frame} {meth : Method} {c : Code} {y : MethodName} {rt : Option FieldType} {G : GT} {b : Nat} {xs : Nat → Int32} (C : Cq p s m #[Value.ref b] meth c cL_law ⟨RL, y.name, y.desc⟩ rt G (fun q => s.heap.size ≤ q) 4) (hr : meth.sig.returnType = ret) (hlk : meth.locks = false) (hX : va_X b 6 xs s s.heap) (hbl : b < s.heap.size) {Lx Lm : List Nat} {E : Nat → va_E} {h0 : Nat} {f : Nat → Value} (hL : h0 ∈ Lx) (hE : E h0 = ob 12 19 f) (f18 : f 18 = .int (-1)) {mm : Nat} {mf : Nat → Value} (mhL : mm ∈ Lm) (mhE : E mm = ob 13 67 mf) (mf1 : mf 1 = .int (-1)) : wq p l e room_1 s m #[Value.ref b] below meth c G (fun q => s.heap.size ≤ q) 4 (lw_Z below #[Value.ref b] s) (Lm ++ Lx) E 89 353657 1315 [(3, .int 0), (2, .ref mm), (1, .ref h0), (0, .ref b)] [] := by
  have hbA : ¬ (fun q : Nat => s.heap.size ≤ q) b := Nat.not_le.mpr hbl
  refine q_aload_n (j := 2) C dL_law_1315 rfl ?_
  refine q_subV (d2 := 5) (mc2 := 0) (ms2 := 0) (As := []) (rest := []) C (x_place  hL hE f18) dL_law_1316 kV_L_159 rfl hL hE ck_12 rfl (Nat.le_of_ble_eq_true rfl) ⟨Nat.le_of_ble_eq_true rfl, Nat.le_of_ble_eq_true rfl⟩ ⟨Nat.le_of_ble_eq_true rfl, Nat.le_of_ble_eq_true rfl⟩ (fun vh1 Lh1 Eh1 Dh1 h1 h1a h1b h1c => ?_)
  subst h1
  refine q_st (st2 := [.int (-1)]) rfl ?_
  refine q_aload_n (j := 1) C dL_law_1319 rfl ?_
  refine q_callV (d2 := 4) (mc2 := 0) (ms2 := 0) (As := []) (rest := [.int (-1)]) C (m_place  (List.mem_append_left _ mhL) ((h1a _ mhL).trans mhE) mf1) dL_law_1320 kV_L_162 rfl (List.mem_append_left _ mhL) ((h1a _ mhL).trans mhE) ck_13 rfl (Nat.le_of_ble_eq_true rfl) ⟨Nat.le_of_ble_eq_true rfl, Nat.le_of_ble_eq_true rfl⟩ ⟨Nat.le_of_ble_eq_true rfl, Nat.le_of_ble_eq_true rfl⟩ (fun vh2 Lh2 Eh2 h2 => ?_)
  subst h2
  refine q_st (st2 := [.int (-1), .int (-1)]) rfl ?_
  refine q_icmp_eq (tgt := 1377) C dL_law_1323 (by decide) (fun _ => ?_) (fun z => absurd rfl z)
  exact law_tail C hr hlk hX hbl (Nat.le_of_ble_eq_true rfl) (Nat.le_of_ble_eq_true rfl)
set_option maxHeartbeats 4000000 in
set_option maxRecDepth 100000 in
theorem law_finds {p : Program} {l : Launch} {e : Env} {s : State} {m : MethodId} {below : List Frame} {meth : Method} {c : Code} {y : MethodName} {rt : Option FieldType} {G : GT} {b : Nat} {xs : Nat → Int32} (C : Cq p s m #[Value.ref b] meth c cL_law ⟨RL, y.name, y.desc⟩ rt G (fun q => s.heap.size ≤ q) 4) (hr : meth.sig.returnType = ret) (hlk : meth.locks = false) (hX : va_X b 6 xs s s.heap) (hbl : b < s.heap.size) {Lx Lm : List Nat} {E : Nat → va_E} {h0 wd fi : Nat} {f fd : Nat → Value} (hL : h0 ∈ Lx) (hE : E h0 = ob 12 19 f) (f6 : f 6 = .ref wd) (hLwd : wd ∈ Lx) (hEwd : E wd = ob 7 12 fd) (fd8 : fd 8 = .ref fi) (hLfi : fi ∈ Lx) (hEfi : E fi = aI G 5 (fun _ => 0)) {mm ma27 : Nat} {mf : Nat → Value} (mhL : mm ∈ Lm) (mhE : E mm = ob 13 67 mf) (mf27 : mf 27 = .ref ma27) (mhL27 : ma27 ∈ Lm) (mhE27 : E ma27 = aI G 5 (fun _ => 0)) : wq p l e room_1 s m #[Value.ref b] below meth c G (fun q => s.heap.size ≤ q) 4 (lw_Z below #[Value.ref b] s) (Lm ++ Lx) E 89 353657 1328 [(3, .int 0), (2, .ref mm), (1, .ref h0), (0, .ref b)] [] := by
  have hbA : ¬ (fun q : Nat => s.heap.size ≤ q) b := Nat.not_le.mpr hbl
  refine q_aload_n (j := 2) C dL_law_1328 rfl ?_
  refine q_aload_n (j := 3) C dL_law_1329 rfl ?_
  refine q_iload_n (j := 0) C dL_law_1330 rfl ?_
  refine q_iconst (v := 1) C dL_law_1331 (by decide) ?_
  refine q_iadd (v := 1) C dL_law_1332 (by decide) ?_
  refine q_sld (v := (xs 1)) C hX hbl hbA dL_law_1333 (by unfold vp_in; decide) rfl ?_
  refine q_subV (d2 := 5) (mc2 := 0) (ms2 := 0) (As := [.int (xs 1)]) (rest := []) C (x_finds (xs 1) hL hE f6 hLwd hEwd fd8 hLfi hEfi) dL_law_1334 kV_L_163 rfl hL hE ck_12 rfl (Nat.le_of_ble_eq_true rfl) ⟨Nat.le_of_ble_eq_true rfl, Nat.le_of_ble_eq_true rfl⟩ ⟨Nat.le_of_ble_eq_true rfl, Nat.le_of_ble_eq_true rfl⟩ (fun vh1 Lh1 Eh1 Dh1 h1 h1a h1b h1c => ?_)
  subst h1
  refine q_st (st2 := [.int 0]) rfl ?_
  refine q_aload_n (j := 1) C dL_law_1337 rfl ?_
  refine q_aload_n (j := 3) C dL_law_1338 rfl ?_
  refine q_iload_n (j := 0) C dL_law_1339 rfl ?_
  refine q_iconst (v := 1) C dL_law_1340 (by decide) ?_
  refine q_iadd (v := 1) C dL_law_1341 (by decide) ?_
  refine q_sld (v := (xs 1)) C hX hbl hbA dL_law_1342 (by unfold vp_in; decide) rfl ?_
  refine q_callV (d2 := 4) (mc2 := 0) (ms2 := 0) (As := [.int (xs 1)]) (rest := [.int 0]) C (m_finds (xs 1) (List.mem_append_left _ mhL) ((h1a _ mhL).trans mhE) mf27 (List.mem_append_left _ mhL27) ((h1a _ mhL27).trans mhE27)) dL_law_1343 kV_L_166 rfl (List.mem_append_left _ mhL) ((h1a _ mhL).trans mhE) ck_13 rfl (Nat.le_of_ble_eq_true rfl) ⟨Nat.le_of_ble_eq_true rfl, Nat.le_of_ble_eq_true rfl⟩ ⟨Nat.le_of_ble_eq_true rfl, Nat.le_of_ble_eq_true rfl⟩ (fun vh2 Lh2 Eh2 h2 => ?_)
  subst h2
  refine q_st (st2 := [.int 0, .int 0]) rfl ?_
  refine q_icmp_eq (tgt := 1377) C dL_law_1346 (by decide) (fun _ => ?_) (fun z => absurd rfl z)
  exact law_tail C hr hlk hX hbl (Nat.le_of_ble_eq_true rfl) (Nat.le_of_ble_eq_true rfl)
set_option maxHeartbeats 4000000 in
set_option maxRecDepth 100000 in
theorem law_status {p : Program} {l : Launch} {e : Env} {s : State} {m : MethodId} {below : List Frame} {meth : Method} {c : Code} {y : MethodName} {rt : Option FieldType} {G : GT} {b : Nat} {xs : Nat → Int32} (C : Cq p s m #[Value.ref b] meth c cL_law ⟨RL, y.name, y.desc⟩ rt G (fun q => s.heap.size ≤ q) 4) (hr : meth.sig.returnType = ret) (hlk : meth.locks = false) (hX : va_X b 6 xs s s.heap) (hbl : b < s.heap.size) {Lx Lm : List Nat} {E : Nat → va_E} {h0 : Nat} {f : Nat → Value} (hL : h0 ∈ Lx) (hE : E h0 = ob 12 19 f) (f17 : f 17 = .int 0) {mm : Nat} {mf : Nat → Value} (mhL : mm ∈ Lm) (mhE : E mm = ob 13 67 mf) (mf0 : mf 0 = .int 0) : wq p l e room_1 s m #[Value.ref b] below meth c G (fun q => s.heap.size ≤ q) 4 (lw_Z below #[Value.ref b] s) (Lm ++ Lx) E 89 353657 1351 [(3, .int 0), (2, .ref mm), (1, .ref h0), (0, .ref b)] [] := by
  have hbA : ¬ (fun q : Nat => s.heap.size ≤ q) b := Nat.not_le.mpr hbl
  refine q_aload_n (j := 2) C dL_law_1351 rfl ?_
  refine q_subV (d2 := 5) (mc2 := 0) (ms2 := 0) (As := []) (rest := []) C (x_status  hL hE f17) dL_law_1352 kV_L_167 rfl hL hE ck_12 rfl (Nat.le_of_ble_eq_true rfl) ⟨Nat.le_of_ble_eq_true rfl, Nat.le_of_ble_eq_true rfl⟩ ⟨Nat.le_of_ble_eq_true rfl, Nat.le_of_ble_eq_true rfl⟩ (fun vh1 Lh1 Eh1 Dh1 h1 h1a h1b h1c => ?_)
  subst h1
  refine q_st (st2 := [.int 0]) rfl ?_
  refine q_aload_n (j := 1) C dL_law_1355 rfl ?_
  refine q_callV (d2 := 4) (mc2 := 0) (ms2 := 0) (As := []) (rest := [.int 0]) C (m_status  (List.mem_append_left _ mhL) ((h1a _ mhL).trans mhE) mf0) dL_law_1356 kV_L_170 rfl (List.mem_append_left _ mhL) ((h1a _ mhL).trans mhE) ck_13 rfl (Nat.le_of_ble_eq_true rfl) ⟨Nat.le_of_ble_eq_true rfl, Nat.le_of_ble_eq_true rfl⟩ ⟨Nat.le_of_ble_eq_true rfl, Nat.le_of_ble_eq_true rfl⟩ (fun vh2 Lh2 Eh2 h2 => ?_)
  subst h2
  refine q_st (st2 := [.int 0, .int 0]) rfl ?_
  refine q_icmp_eq (tgt := 1377) C dL_law_1359 (by decide) (fun _ => ?_) (fun z => absurd rfl z)
  exact law_tail C hr hlk hX hbl (Nat.le_of_ble_eq_true rfl) (Nat.le_of_ble_eq_true rfl)
set_option maxHeartbeats 4000000 in
set_option maxRecDepth 100000 in
theorem law_digest {p : Program} {l : Launch} {e : Env} {s : State} {m : MethodId} {below : List Frame} {meth : Method} {c : Code} {y : MethodName} {rt : Option FieldType} {G : GT} {b : Nat} {xs : Nat → Int32} (C : Cq p s m #[Value.ref b] meth c cL_law ⟨RL, y.name, y.desc⟩ rt G (fun q => s.heap.size ≤ q) 4) (hr : meth.sig.returnType = ret) (hlk : meth.locks = false) (hX : va_X b 6 xs s s.heap) (hbl : b < s.heap.size) {Lx Lm : List Nat} {E : Nat → va_E} {h0 br wd fi sh : Nat} {f fb fd fs : Nat → Value} (hL : h0 ∈ Lx) (hE : E h0 = ob 12 19 f) (f2 : f 2 = .ref br) (f6 : f 6 = .ref wd) (f9 : f 9 = .ref sh) (f15 : f 15 = .int 0) (f16 : f 16 = .int 0) (hLbr : br ∈ Lx) (hEbr : E br = ob 2 3 fb) (fb2 : fb 2 = .int 0) (hLwd : wd ∈ Lx) (hEwd : E wd = ob 7 12 fd) (fd8 : fd 8 = .ref fi) (hLfi : fi ∈ Lx) (hEfi : E fi = aI G 5 (fun _ => 0)) (hLsh : sh ∈ Lx) (hEsh : E sh = ob 8 3 fs) (fs1 : fs 1 = .int 0) {mm ma27 : Nat} {mf : Nat → Value} (mhL : mm ∈ Lm) (mhE : E mm = ob 13 67 mf) (mf36 : mf 36 = .int 0) (mf42 : mf 42 = .int 0) (mf43 : mf 43 = .int 0) (mf52 : mf 52 = .int 0) (mf27 : mf 27 = .ref ma27) (mhL27 : ma27 ∈ Lm) (mhE27 : E ma27 = aI G 5 (fun _ => 0)) : wq p l e room_1 s m #[Value.ref b] below meth c G (fun q => s.heap.size ≤ q) 4 (lw_Z below #[Value.ref b] s) (Lm ++ Lx) E 89 353657 1364 [(3, .int 0), (2, .ref mm), (1, .ref h0), (0, .ref b)] [] := by
  have hbA : ¬ (fun q : Nat => s.heap.size ≤ q) b := Nat.not_le.mpr hbl
  refine q_aload_n (j := 2) C dL_law_1364 rfl ?_
  refine q_subV (d2 := 6) (mc2 := 0) (ms2 := 0) (As := []) (rest := []) C (x_digest  hL hE f2 f6 f9 f15 f16 hLbr hEbr fb2 hLwd hEwd fd8 hLfi hEfi hLsh hEsh fs1) dL_law_1365 kV_L_171 rfl hL hE ck_12 rfl (Nat.le_of_ble_eq_true rfl) ⟨Nat.le_of_ble_eq_true rfl, Nat.le_of_ble_eq_true rfl⟩ ⟨Nat.le_of_ble_eq_true rfl, Nat.le_of_ble_eq_true rfl⟩ (fun vh1 Lh1 Eh1 Dh1 h1 h1a h1b h1c => ?_)
  subst h1
  refine q_st (st2 := [.int 954237711]) rfl ?_
  refine q_aload_n (j := 1) C dL_law_1368 rfl ?_
  refine q_callV (d2 := 4) (mc2 := 0) (ms2 := 0) (As := []) (rest := [.int 954237711]) C (m_digest  (List.mem_append_left _ mhL) ((h1a _ mhL).trans mhE) mf36 mf42 mf43 mf52 mf27 (List.mem_append_left _ mhL27) ((h1a _ mhL27).trans mhE27)) dL_law_1369 kV_L_174 rfl (List.mem_append_left _ mhL) ((h1a _ mhL).trans mhE) ck_13 rfl (Nat.le_of_ble_eq_true rfl) ⟨Nat.le_of_ble_eq_true rfl, Nat.le_of_ble_eq_true rfl⟩ ⟨Nat.le_of_ble_eq_true rfl, Nat.le_of_ble_eq_true rfl⟩ (fun vh2 Lh2 Eh2 h2 => ?_)
  subst h2
  refine q_st (st2 := [.int 954237711, .int 954237711]) rfl ?_
  refine q_icmp_eq (tgt := 1377) C dL_law_1372 (by decide) (fun _ => ?_) (fun z => absurd rfl z)
  exact law_tail C hr hlk hX hbl (Nat.le_of_ble_eq_true rfl) (Nat.le_of_ble_eq_true rfl)
