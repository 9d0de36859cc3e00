theorem law_classes {s : State} {args : Array Value} {c0 : ClassId} (hg : ∀ w ∈ lw_g, w.before args s = true) : ∃ (dC : Nat → ClassId) (dI : Nat → Nat → Nat), ∀ (k : Nat) (q : vw_C), vwCl[k]? = some q → u_Kn s q.1 q.2.1 q.2.2 (dC k) (dI k) := by
  have key : ∀ k : Nat, ∃ (cC : ClassId) (iS : Nat → Nat), ∀ q : vw_C, vwCl[k]? = some q → u_Kn s q.1 q.2.1 q.2.2 cC iS := by
    intro k
    match k with
    | 0 => exact (by obtain ⟨cC, iS, h⟩ := u_known hg ck_0.2.1 (hg _ w1_65); exact ⟨cC, iS, fun q hq => by cases hq; exact h⟩)
    | 1 => exact (by obtain ⟨cC, iS, h⟩ := u_known hg ck_1.2.1 (hg _ w3_35); exact ⟨cC, iS, fun q hq => by cases hq; exact h⟩)
    | 2 => exact (by obtain ⟨cC, iS, h⟩ := u_known hg ck_2.2.1 (hg _ w1_33); exact ⟨cC, iS, fun q hq => by cases hq; exact h⟩)
    | 3 => exact (by obtain ⟨cC, iS, h⟩ := u_known hg ck_3.2.1 (hg _ w4_39); exact ⟨cC, iS, fun q hq => by cases hq; exact h⟩)
    | 4 => exact (by obtain ⟨cC, iS, h⟩ := u_known hg ck_4.2.1 (hg _ w1_180); exact ⟨cC, iS, fun q hq => by cases hq; exact h⟩)
    | 5 => exact (by obtain ⟨cC, iS, h⟩ := u_known hg ck_5.2.1 (hg _ w1_221); exact ⟨cC, iS, fun q hq => by cases hq; exact h⟩)
    | 6 => exact (by obtain ⟨cC, iS, h⟩ := u_known hg ck_6.2.1 (hg _ w3_126); exact ⟨cC, iS, fun q hq => by cases hq; exact h⟩)
    | 7 => exact (by obtain ⟨cC, iS, h⟩ := u_known hg ck_7.2.1 (hg _ w1_131); exact ⟨cC, iS, fun q hq => by cases hq; exact h⟩)
    | 8 => exact (by obtain ⟨cC, iS, h⟩ := u_known hg ck_8.2.1 (hg _ w2_26); exact ⟨cC, iS, fun q hq => by cases hq; exact h⟩)
    | 9 => exact (by obtain ⟨cC, iS, h⟩ := u_known hg ck_9.2.1 (hg _ w1_98); exact ⟨cC, iS, fun q hq => by cases hq; exact h⟩)
    | 10 => exact (by obtain ⟨cC, iS, h⟩ := u_known hg ck_10.2.1 (hg _ w2_163); exact ⟨cC, iS, fun q hq => by cases hq; exact h⟩)
    | 11 => exact (by obtain ⟨cC, iS, h⟩ := u_known hg ck_11.2.1 (hg _ w1_59); exact ⟨cC, iS, fun q hq => by cases hq; exact h⟩)
    | 12 => exact (by obtain ⟨cC, iS, h⟩ := u_known hg ck_12.2.1 (hg _ w1_25); exact ⟨cC, iS, fun q hq => by cases hq; exact h⟩)
    | 13 => exact (by obtain ⟨cC, iS, h⟩ := u_known hg ck_13.2.1 (hg _ w6_50); exact ⟨cC, iS, fun q hq => by cases hq; exact h⟩)
    | k + 14 => exact ⟨c0, fun _ => 0, fun q hq => by simp [vwCl] at hq⟩
  exact ⟨fun k => (key k).choose, fun k => (key k).choose_spec.choose, fun k q hq => (key k).choose_spec.choose_spec q hq⟩
theorem law_arr {s : State} {args : Array Value} {C : String} (h : (Cond.arrayOver (.object C)).before args s = true) : ∃ c : ClassId, ArrOfT s c (.object C) ∧ va_RA s c (.object C) := by
  obtain ⟨comp, c, k, h1, h2, h3, h4, h5⟩ := Cond.arrayOver_spec h
  exact ⟨c, fun N z => ⟨(fun k h => by cases h), k, h3, comp, h4⟩, k, comp, h3, h4, h1, h5⟩
theorem law_arrI {s : State} {args : Array Value} (h : (Cond.arrayClass .int).before args s = true) : ∃ c : ClassId, ArrOfT s c .int ∧ va_RA s c .int := by
  obtain ⟨c, k, comp, h1, h2, h3⟩ := Cond.arrayClass_spec h
  exact ⟨c, fun N z => ⟨(fun k h => by cases h), k, h2, comp, h3⟩, h1⟩
theorem law_arrZ {s : State} {args : Array Value} (h : (Cond.arrayClass .boolean).before args s = true) : ∃ c : ClassId, ArrOfT s c .boolean ∧ va_RA s c .boolean := by
  obtain ⟨c, k, comp, h1, h2, h3⟩ := Cond.arrayClass_spec h
  exact ⟨c, fun N z => ⟨(fun k h => by cases h), k, h2, comp, h3⟩, h1⟩
theorem q_room {p : Program} {l : Launch} {e : Env} {R : Room} {s : State} {m : MethodId} {args : Array Value} {below : List Frame} {meth : Method} {c : Code} {G : GT} {A : Nat → Prop} {nL : Nat} {Q : State → Prop} {L : List Nat} {E : Nat → va_E} {kc ks kc2 ks2 pc : Nat} {lv : List (Nat × Value)} {st : List Value} (h1 : kc = kc2) (h2 : ks = ks2) (k : wq p l e R s m args below meth c G A nL Q L E kc2 ks2 pc lv st) : wq p l e R s m args below meth c G A nL Q L E kc ks pc lv st := by subst h1; subst h2; exact k
set_option maxHeartbeats 4000000 in
set_option maxRecDepth 100000 in
theorem law_go {p : Program} {l : Launch} {e : Env} {s : State} {m : MethodId} {below : List Frame} {meth : Method} {c : Code} {y : MethodName} {rt : Option FieldType} {G : GT} {b : Nat} {xs : Nat → Int32} (C : Cq p s m #[Value.ref b] meth c cL_law ⟨RL, y.name, y.desc⟩ rt G (fun q => s.heap.size ≤ q) 4) (hr : meth.sig.returnType = ret) (hlk : meth.locks = false) {Ln : Nat} (hLn : Ln ≤ 6) (hX : va_X b Ln xs s s.heap) (hbl : b < s.heap.size) {E0 : Nat → va_E} : wq p l e room_1 s m #[Value.ref b] below meth c G (fun q => s.heap.size ≤ q) 4 (lw_Z below #[Value.ref b] s) [] E0 0 0 0 [(0, .ref b)] [] := by
  have hbA : ¬ (fun q : Nat => s.heap.size ≤ q) b := Nat.not_le.mpr hbl
  refine q_new C ck_12 dL_law_0 w1_24 w1_25 w1_1 ⟨Nat.le_of_ble_eq_true rfl, Nat.le_of_ble_eq_true rfl⟩ (fun h0 nh0 => ?_)
  refine q_dup C dL_law_3 rfl ?_
  refine q_callI (d2 := 5) (mc2 := 47) (ms2 := 3868) (As := []) (rest := [.ref h0]) C (c_DotPress_init (List.mem_append_right _ (List.mem_singleton.mpr rfl)) (va_up_self _ _ _)) dL_law_4 kI_L_9 rfl rfl (Nat.le_of_ble_eq_true rfl) ⟨Nat.le_of_ble_eq_true rfl, Nat.le_of_ble_eq_true rfl⟩ ⟨Nat.le_of_ble_eq_true rfl, Nat.le_of_ble_eq_true rfl⟩ (fun v1 Lx E1 h1 => ?_)
  obtain ⟨rfl, hXF⟩ := h1
  refine q_st (st2 := [.ref h0]) rfl ?_
  refine q_astore_n (lv2 := [(1, .ref h0), (0, .ref b)]) C dL_law_7 (by decide) rfl ?_
  refine q_new C ck_13 dL_law_8 w6_49 w6_50 w1_12 ⟨Nat.le_of_ble_eq_true rfl, Nat.le_of_ble_eq_true rfl⟩ (fun mm nmm => ?_)
  refine q_dup C dL_law_11 rfl ?_
  refine q_subI (Lm := Lx) (Lx := [mm]) (d2 := 1) (mc2 := 40) (ms2 := 349703) (As := []) (rest := [.ref mm]) C (c_Model_init (f := fun j => defaultValue (tyX12 j)) (List.mem_singleton.mpr rfl) (va_up_self _ _ _) rfl rfl rfl rfl rfl rfl rfl rfl rfl rfl rfl rfl rfl rfl rfl rfl rfl rfl rfl) dL_law_12 kI_L_12 rfl rfl (Nat.le_of_ble_eq_true rfl) ⟨Nat.le_of_ble_eq_true rfl, Nat.le_of_ble_eq_true rfl⟩ ⟨Nat.le_of_ble_eq_true rfl, Nat.le_of_ble_eq_true rfl⟩ (fun v2 Lm E2 E h2 ha hb2 hc => ?_)
  obtain ⟨rfl, hMF⟩ := h2
  have hXE : XF G Lx E h0 := hXF.congr (fun a h => (ha a h).trans (va_up_ne _ _ (ne_in h nmm)))
  have hME : MF G Lm E mm := hMF.congr (fun a h => hb2 a h)
  clear hXF hMF ha hb2
  refine q_st (st2 := [.ref mm]) rfl ?_
  refine q_astore_n (lv2 := [(2, .ref mm), (1, .ref h0), (0, .ref b)]) C dL_law_15 (by decide) rfl ?_
  refine q_iconst (v := 0) C dL_law_16 (by decide) ?_
  refine q_istore_n (lv2 := [(3, .int 0), (2, .ref mm), (1, .ref h0), (0, .ref b)]) C dL_law_17 (by decide) rfl ?_
  refine q_swap ?_
  refine q_room (kc2 := 89) (ks2 := 353657) rfl rfl ?_
  refine q_iload_n (j := 0) C dL_law_18 rfl ?_
  refine q_aload_n (j := 3) C dL_law_19 rfl ?_
  refine q_slen (v := Int32.ofNat Ln) C hX hbl hbA dL_law_20 rfl ?_
  refine q_bipush (v := 6) C dL_law_21 (by decide) ?_
  refine q_isub (v := (Int32.ofNat Ln - 6)) C dL_law_23 rfl ?_
  refine q_icmp_gt (tgt := 1383) C dL_law_24 (by decide) (fun z => ?_) (fun z => ?_)
  · refine q_iconst (v := 1) C dL_law_1383 (by decide) ?_
    exact law_ret C hr hlk (Nat.le_of_ble_eq_true rfl) (Nat.le_of_ble_eq_true rfl) dL_law_1384
  have h6 : Ln = 6 := by
    rcases (show Ln = 0 ∨ Ln = 1 ∨ Ln = 2 ∨ Ln = 3 ∨ Ln = 4 ∨ Ln = 5 ∨ Ln = 6 by omega) with rfl | rfl | rfl | rfl | rfl | rfl | rfl
    · exact absurd (by decide) z
    · exact absurd (by decide) z
    · exact absurd (by decide) z
    · exact absurd (by decide) z
    · exact absurd (by decide) z
    · exact absurd (by decide) z
    · rfl
  subst h6
  clear z
  refine q_aload_n (j := 3) C dL_law_27 rfl ?_
  refine q_iload_n (j := 0) C dL_law_28 rfl ?_
  refine q_sld (v := (xs 0)) C hX hbl hbA dL_law_29 (by unfold vp_in; decide) rfl ?_
  refine q_bipush (v := 63) C dL_law_30 (by decide) ?_
  obtain ⟨j, hj, ej⟩ := pk_andE (xs 0) (m := 63) 6 rfl
  refine q_iand (v := (nI j)) C dL_law_32 ej ?_
  clear ej
  by_cases h39 : j < 39
  · obtain ⟨tp, qt, wr, br, hd, tb, md, ch, wd, fi, fo, sh, f, ft, fw, fb, fh, fT, fm, fc, fd, ff, fs, hL, hE, f0, f1, f2, f3, f4, f6, f8, f9, f11, f12, f13, f14, f15, f16, f17, f18, hLtp, hEtp, ft0, ft1, ft2, hLqt, hEqt, hLwr, hEwr, fw2, hLbr, hEbr, fb2, hLhd, hEhd, fh2, hLtb, hEtb, fT0, fT1, hLmd, hEmd, fm0, fm1, fm2, hLch, hEch, fc0, fc1, fc2, hLwd, hEwd, fd8, hLfi, hEfi, hLfo, hEfo, ff5, ff6, hLsh, hEsh, fs1, nmc, ntw⟩ := hXE
    obtain ⟨ma2, ma5, ma6, ma7, ma8, ma9, ma10, ma16, ma18, ma27, mf, mhL, mhE, mf0, mf1, mf3, mf4, mf19, mf23, mf30, mf31, mf32, mf33, mf36, mf41, mf42, mf43, mf50, mf52, mf56, mf60, mf61, mf2, mhL2, mhE2, mf5, mhL5, mhE5, mf6, mhL6, mhE6, mf7, mhL7, mhE7, mf8, mhL8, mhE8, mf9, mhL9, mhE9, mf10, mhL10, mhE10, mf16, mhL16, mhE16, mf18, mhL18, mhE18, mf27, mhL27, mhE27, mn2, mn5, mn6, mn7, mn8, mn9, mn10, mn16, mn18, mn27, mn2_5, mn2_6, mn2_7, mn2_8, mn2_9, mn2_10, mn2_16, mn2_18, mn2_27, mn5_6, mn5_7, mn5_8, mn5_9, mn5_10, mn5_16, mn5_18, mn5_27, mn6_7, mn6_8, mn6_9, mn6_10, mn6_16, mn6_18, mn6_27, mn7_8, mn7_9, mn7_10, mn7_16, mn7_18, mn7_27, mn8_9, mn8_10, mn8_16, mn8_18, mn8_27, mn9_10, mn9_16, mn9_18, mn9_27, mn10_16, mn10_18, mn10_27, mn16_18, mn16_27, mn18_27⟩ := hME
    rcases (show j = 0 ∨ j = 1 ∨ j = 2 ∨ j = 3 ∨ j = 4 ∨ j = 5 ∨ j = 6 ∨ j = 7 ∨ j = 8 ∨ j = 9 ∨ j = 10 ∨ j = 11 ∨ j = 12 ∨ j = 13 ∨ j = 14 ∨ j = 15 ∨ j = 16 ∨ j = 17 ∨ j = 18 ∨ j = 19 ∨ j = 20 ∨ j = 21 ∨ j = 22 ∨ j = 23 ∨ j = 24 ∨ j = 25 ∨ j = 26 ∨ j = 27 ∨ j = 28 ∨ j = 29 ∨ j = 30 ∨ j = 31 ∨ j = 32 ∨ j = 33 ∨ j = 34 ∨ j = 35 ∨ j = 36 ∨ j = 37 ∨ j = 38 by omega) with rfl | rfl | rfl | rfl | rfl | rfl | rfl | rfl | rfl | rfl | rfl | rfl | rfl | rfl | rfl | rfl | rfl | rfl | rfl | rfl | rfl | rfl | rfl | rfl | rfl | rfl | rfl | rfl | rfl | rfl | rfl | rfl | rfl | rfl | rfl | rfl | rfl | rfl | rfl
    · refine q_tabIn (tgt := 204) (off := 171) C dL_law_33 (by decide) (by decide) (by decide) (by decide) ?_
      exact law_feed C hr hlk hX hbl hL hE f0 hLtp hEtp ft0 ft1 ft2 hLqt hEqt fh2 mhL mhE mf3 mf2 mhL2 mhE2 mn2
    · refine q_tabIn (tgt := 267) (off := 234) C dL_law_33 (by decide) (by decide) (by decide) (by decide) ?_
      exact law_end C hr hlk hX hbl hL hE f0 hLtp hEtp ft2 mhL mhE mf3
    · refine q_tabIn (tgt := 290) (off := 257) C dL_law_33 (by decide) (by decide) (by decide) (by decide) ?_
      exact law_table C hr hlk hX hbl hL hE f4 hLtp hEtp hLqt hEqt hLwr hEwr hLbr hEbr hLhd hEhd hLtb hEtb fT0 fT1 hLmd hEmd fm0 fm1 fm2 hLch hEch fc0 fc1 fc2 hLwd hEwd hLfi hEfi hLfo hEfo hLsh hEsh nmc mhL mhE mf4 mf19 mf5 mhL5 mhE5 mf6 mhL6 mhE6 mf7 mhL7 mhE7 mf8 mhL8 mhE8 mf9 mhL9 mhE9 mf10 mhL10 mhE10 mf16 mhL16 mhE16 mf18 mhL18 mhE18 mn5 mn6 mn7 mn8 mn9 mn10 mn16 mn18 mn5_6 mn5_7 mn5_8 mn5_9 mn5_10 mn5_16 mn5_18 mn6_7 mn6_8 mn6_9 mn6_10 mn6_16 mn6_18 mn7_8 mn7_9 mn7_10 mn7_16 mn7_18 mn8_9 mn8_10 mn8_16 mn8_18 mn9_10 mn9_16 mn9_18 mn10_16 mn10_18 mn16_18
    · refine q_tabIn (tgt := 333) (off := 300) C dL_law_33 (by decide) (by decide) (by decide) (by decide) ?_
      exact law_join C hr hlk hX hbl hL hE f4 hLtb hEtb fT0 fT1 hLmd hEmd fm2 hLch hEch fc2 mhL mhE mf4
    · refine q_tabIn (tgt := 366) (off := 333) C dL_law_33 (by decide) (by decide) (by decide) (by decide) ?_
      exact law_drop C hr hlk hX hbl hL hE f4 hLtb hEtb fT0 fT1 hLmd hEmd fm2 hLch hEch fc2 mhL mhE mf4
    · refine q_tabIn (tgt := 389) (off := 356) C dL_law_33 (by decide) (by decide) (by decide) (by decide) ?_
      exact law_rule C hr hlk hX hbl hL hE f0 f4 hLtp hEtp hLtb hEtb fT0 fT1 hLmd hEmd fm2 hLch hEch fc2 mhL mhE mf3 mf4
    · refine q_tabIn (tgt := 432) (off := 399) C dL_law_33 (by decide) (by decide) (by decide) (by decide) ?_
      exact law_condition C hr hlk hX hbl hL hE f4 hLtb hEtb fT0 fT1 hLmd hEmd fm2 hLch hEch fc2 mhL mhE mf4
    · refine q_tabIn (tgt := 475) (off := 442) C dL_law_33 (by decide) (by decide) (by decide) (by decide) ?_
      exact law_indicator C hr hlk hX hbl hL hE f0 f4 hLtp hEtp hLtb hEtb fT0 fT1 hLmd hEmd fm2 hLch hEch fc2 mhL mhE mf3 mf4
    · refine q_tabIn (tgt := 508) (off := 475) C dL_law_33 (by decide) (by decide) (by decide) (by decide) ?_
      exact law_undo C hr hlk hX hbl hL hE f4 hLtb hEtb fT0 fT1 hLmd hEmd fm2 hLch hEch fc2 mhL mhE mf19
    · refine q_tabIn (tgt := 521) (off := 488) C dL_law_33 (by decide) (by decide) (by decide) (by decide) ?_
      exact law_text C hr hlk hX hbl hL hE f0 f1 hLtp hEtp ft2 hLwr hEwr fw2 ntw mhL mhE mf3 mf30
    · refine q_tabIn (tgt := 534) (off := 501) C dL_law_33 (by decide) (by decide) (by decide) (by decide) ?_
      exact law_measure C hr hlk hX hbl hL hE mhL mhE
    · refine q_tabIn (tgt := 577) (off := 544) C dL_law_33 (by decide) (by decide) (by decide) (by decide) ?_
      exact law_set C hr hlk hX hbl hL hE f4 hLtb hEtb fT0 fT1 hLmd hEmd fm2 hLch hEch fc2 mhL mhE mf4
    · refine q_tabIn (tgt := 600) (off := 567) C dL_law_33 (by decide) (by decide) (by decide) (by decide) ?_
      exact law_head C hr hlk hX hbl hL hE f0 f4 f6 hLtp hEtp ft2 hLtb hEtb fT0 fT1 hLmd hEmd fm2 hLch hEch fc2 hLwd hEwd mhL mhE mf3 mf4
    · refine q_tabIn (tgt := 623) (off := 590) C dL_law_33 (by decide) (by decide) (by decide) (by decide) ?_
      exact law_lines C hr hlk hX hbl hL hE f9 hLsh hEsh fs1 mhL mhE mf36
    · refine q_tabIn (tgt := 636) (off := 603) C dL_law_33 (by decide) (by decide) (by decide) (by decide) ?_
      exact law_pages C hr hlk hX hbl hL hE f3 f9 f12 hLhd hEhd fh2 hLsh hEsh fs1 mhL mhE mf32 mf36 mf41
    · refine q_tabIn (tgt := 649) (off := 616) C dL_law_33 (by decide) (by decide) (by decide) (by decide) ?_
      exact law_length C hr hlk hX hbl hL hE f9 hLsh hEsh fs1 mhL mhE mf36
    · refine q_tabIn (tgt := 672) (off := 639) C dL_law_33 (by decide) (by decide) (by decide) (by decide) ?_
      exact law_cell C hr hlk hX hbl hL hE f9 hLsh hEsh fs1 mhL mhE mf36
    · refine q_tabIn (tgt := 705) (off := 672) C dL_law_33 (by decide) (by decide) (by decide) (by decide) ?_
      exact law_page C hr hlk hX hbl hL hE f3 f9 f12 hLhd hEhd fh2 hLsh hEsh fs1 mhL mhE mf32 mf36 mf41
    · refine q_tabIn (tgt := 748) (off := 715) C dL_law_33 (by decide) (by decide) (by decide) (by decide) ?_
      exact law_cut C hr hlk hX hbl hL hE f9 hLsh hEsh fs1 mhL mhE mf36
    · refine q_tabIn (tgt := 781) (off := 748) C dL_law_33 (by decide) (by decide) (by decide) (by decide) ?_
      exact law_lose C hr hlk hX hbl hL hE f9 hLsh hEsh fs1 mhL mhE mf36
    · refine q_tabIn (tgt := 804) (off := 771) C dL_law_33 (by decide) (by decide) (by decide) (by decide) ?_
      exact law_copyRow C hr hlk hX hbl hL hE f9 hLsh hEsh fs1 mhL mhE mf36
    · refine q_tabIn (tgt := 867) (off := 834) C dL_law_33 (by decide) (by decide) (by decide) (by decide) ?_
      exact law_copyLines C hr hlk hX hbl hL hE f9 hLsh hEsh fs1 mhL mhE mf36
    · refine q_tabIn (tgt := 910) (off := 877) C dL_law_33 (by decide) (by decide) (by decide) (by decide) ?_
      exact law_copied C hr hlk hX hbl hL hE f15 mhL mhE mf42
    · refine q_tabIn (tgt := 923) (off := 890) C dL_law_33 (by decide) (by decide) (by decide) (by decide) ?_
      exact law_emboss C hr hlk hX hbl hL hE f9 f16 hLsh hEsh fs1 mhL mhE mf36 mf43
    · refine q_tabIn (tgt := 956) (off := 923) C dL_law_33 (by decide) (by decide) (by decide) (by decide) ?_
      exact law_closed C hr hlk hX hbl hL hE f16 mhL mhE mf43
    · refine q_tabIn (tgt := 969) (off := 936) C dL_law_33 (by decide) (by decide) (by decide) (by decide) ?_
      exact law_read C hr hlk hX hbl hL hE f4 hLtb hEtb fT0 fT1 hLmd hEmd fm2 hLch hEch fc2 mhL mhE mf4
    · refine q_tabIn (tgt := 1012) (off := 979) C dL_law_33 (by decide) (by decide) (by decide) (by decide) ?_
      exact law_letter C hr hlk hX hbl hL hE f2 hLbr hEbr fb2 mhL mhE mf52
    · refine q_tabIn (tgt := 1035) (off := 1002) C dL_law_33 (by decide) (by decide) (by decide) (by decide) ?_
      exact law_failed C hr hlk hX hbl hL hE f14 mhL mhE mf56
    · refine q_tabIn (tgt := 1084) (off := 1051) C dL_law_33 (by decide) (by decide) (by decide) (by decide) ?_
      exact law_readings C hr hlk hX hbl hL hE f4 hLtb hEtb fT0 fT1 hLmd hEmd fm2 hLch hEch fc2 mhL mhE mf4
    · refine q_tabIn (tgt := 1127) (off := 1094) C dL_law_33 (by decide) (by decide) (by decide) (by decide) ?_
      exact law_more C hr hlk hX hbl hL hE f8 hLfo hEfo ff6 mhL mhE mf61
    · refine q_tabIn (tgt := 1140) (off := 1107) C dL_law_33 (by decide) (by decide) (by decide) (by decide) ?_
      exact law_reading C hr hlk hX hbl hL hE f8 hLfo hEfo ff5 mhL mhE mf60
    · refine q_tabIn (tgt := 1173) (off := 1140) C dL_law_33 (by decide) (by decide) (by decide) (by decide) ?_
      exact law_judge C hr hlk hX hbl hL hE f4 hLtb hEtb fT0 fT1 hLmd hEmd fm2 hLch hEch fc2 mhL mhE mf4
    · refine q_tabIn (tgt := 1196) (off := 1163) C dL_law_33 (by decide) (by decide) (by decide) (by decide) ?_
      exact law_parts C hr hlk hX hbl hL hE f4 hLtb hEtb fT0 fT1 hLmd hEmd fm2 hLch hEch fc2 mhL mhE mf4
    · refine q_tabIn (tgt := 1239) (off := 1206) C dL_law_33 (by decide) (by decide) (by decide) (by decide) ?_
      exact law_unreadable C hr hlk hX hbl hL hE f4 hLtb hEtb fT0 fT1 hLmd hEmd fm2 hLch hEch fc2 mhL mhE mf4
    · refine q_tabIn (tgt := 1282) (off := 1249) C dL_law_33 (by decide) (by decide) (by decide) (by decide) ?_
      exact law_saved C hr hlk hX hbl hL hE f4 hLtb hEtb fT0 fT1 hLmd hEmd fm2 hLch hEch fc2 mhL mhE mf4
    · refine q_tabIn (tgt := 1315) (off := 1282) C dL_law_33 (by decide) (by decide) (by decide) (by decide) ?_
      exact law_place C hr hlk hX hbl hL hE f18 mhL mhE mf1
    · refine q_tabIn (tgt := 1328) (off := 1295) C dL_law_33 (by decide) (by decide) (by decide) (by decide) ?_
      exact law_finds C hr hlk hX hbl hL hE f6 hLwd hEwd fd8 hLfi hEfi mhL mhE mf27 mhL27 mhE27
    · refine q_tabIn (tgt := 1351) (off := 1318) C dL_law_33 (by decide) (by decide) (by decide) (by decide) ?_
      exact law_status C hr hlk hX hbl hL hE f17 mhL mhE mf0
    · refine q_tabIn (tgt := 1364) (off := 1331) C dL_law_33 (by decide) (by decide) (by decide) (by decide) ?_
      exact law_digest C hr hlk hX hbl hL hE f2 f6 f9 f15 f16 hLbr hEbr fb2 hLwd hEwd fd8 hLfi hEfi hLsh hEsh fs1 mhL mhE mf36 mf42 mf43 mf52 mf27 mhL27 mhE27
  · refine q_tabOut (tgt := 1377) C dL_law_33 (Or.inr (by rw [nI_toInt (by omega)]; omega)) (by decide) ?_
    exact law_tail C hr hlk hX hbl (Nat.le_of_ble_eq_true rfl) (Nat.le_of_ble_eq_true rfl)
