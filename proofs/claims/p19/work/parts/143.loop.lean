set_option maxHeartbeats 4000000 in
set_option maxRecDepth 100000 in
theorem law_loop {p : Program} {l : Launch} {e : Env} {s : State} {m : MethodId} {below : List Frame} {meth : Method} {c : Code} {y : MethodName} {rt : Option FieldType} {G : GT} {b mi h0 mm  Ln : Nat} {xs : Nat → Int32} {zs : Nat → Int} (C : Cq p s m #[Value.ref b] meth c cL_law ⟨RL, y.name, y.desc⟩ rt G (fun q => s.heap.size ≤ q) 4) (hr : meth.sig.returnType = ret) (hlk : meth.locks = false) (hM : Mir mi s) (hX : va_X b Ln xs s s.heap) (hbl : b < s.heap.size) (hzs : ∀ k, xs k = iI (zs k)) (hz : ∀ k, -2147483648 ≤ zs k ∧ zs k ≤ 2147483647) (hLn : Ln ≤ 3072) : ∀ (k n u kc ks : Nat) (Lx Lm : List Nat) (E : Nat → va_E), n + k = 513 → LI (RLH h0) G h0 mm n n (6500 * n) u Lx Lm E → 16 * kc + ks ≤ u → wq p l e room_1 s m #[Value.ref b] below meth c G (fun q => s.heap.size ≤ q) 4 (lw_Z below #[Value.ref b] s) (Lm ++ Lx) E kc ks 18 (LV b h0 mm n) [] := by
  intro k
  induction k with
  | zero =>
    intro n u kc ks Lx Lm E hk hI hu
    have hbA : ¬ (fun q : Nat => s.heap.size ≤ q) b := Nat.not_le.mpr hbl
    obtain ⟨cl, ln, iv, rv, sk, ad, lnm, v, a, h1, h2, h3, h4, h5, h6⟩ := hI
    refine hv2 (Phi.le h2.1 h2.2.1) (show PHM = 1110000 from rfl) (fun hph e0 => ?_)
    refine q_iload_n (j := 0) C dL_law_18 rfl ?_
    refine q_aload_n (j := 3) C dL_law_19 rfl ?_
    refine q_slen (v := iI (Ln : Int)) C hX hbl hbA dL_law_20 rfl ?_
    refine q_bipush (v := iI 6) C dL_law_21 (by decide) ?_
    refine q_isub (v := iI ((Ln : Int) - 6)) C dL_law_23 (Int32.ofInt_sub ..).symm ?_
    refine q_icmp_gt (tgt := 1383) C dL_law_24 (by decide) (fun z => ?_) (fun z => absurd ((iI_lt ⟨by omega, by omega⟩ ⟨by omega, by omega⟩).mpr (by omega)) z)
    refine q_iconst (v := 1) C dL_law_1383 (by decide) ?_
    exact law_ret C hr hlk (by omega) (by omega) dL_law_1384
  | succ k ih0 =>
    intro n u kc ks Lx Lm E hk hI hu
    have hbA : ¬ (fun q : Nat => s.heap.size ≤ q) b := Nat.not_le.mpr hbl
    refine q_iload_n (j := 0) C dL_law_18 rfl ?_
    refine q_aload_n (j := 3) C dL_law_19 rfl ?_
    refine q_slen (v := iI (Ln : Int)) C hX hbl hbA dL_law_20 rfl ?_
    refine q_bipush (v := iI 6) C dL_law_21 (by decide) ?_
    refine q_isub (v := iI ((Ln : Int) - 6)) C dL_law_23 (Int32.ofInt_sub ..).symm ?_
    refine q_icmp_gt (tgt := 1383) C dL_law_24 (by decide) (fun z => ?_) (fun z => ?_)
    · obtain ⟨cl, ln, iv, rv, sk, ad, lnm, v, a, h1, h2, h3, h4, h5, h6⟩ := hI
      refine hv2 (Phi.le h2.1 h2.2.1) (show PHM = 1110000 from rfl) (fun hph e0 => ?_)
      refine q_iconst (v := 1) C dL_law_1383 (by decide) ?_
      exact law_ret C hr hlk (by omega) (by omega) dL_law_1384
    have hn6 : 6 * n + 6 ≤ Ln := by
      by_cases h : 6 * n + 6 ≤ Ln
      · exact h
      · exact absurd ((iI_lt ⟨by omega, by omega⟩ ⟨by omega, by omega⟩).mpr (by omega)) z
    have ih := fun (L2 L3 : List Nat) (E3 : Nat → va_E) (kc2 ks2 u2 : Nat) (q1 : LI (RLH h0) G h0 mm (n + 1) (n + 1) (6500 * (n + 1)) u2 L2 L3 E3) (q2 : 16 * kc2 + ks2 ≤ u2) => ih0 (n + 1) u2 kc2 ks2 L2 L3 E3 (by omega) q1 q2
    refine q_aload_n (j := 3) C dL_law_27 rfl ?_
    refine q_iload_n (j := 0) C dL_law_28 rfl ?_
    refine q_sld (v := xs (6 * n)) C hX hbl hbA dL_law_29 (iI_in ⟨by omega, by omega⟩ (by omega) (by omega)) (by rw [iI_cl ⟨by omega, by omega⟩]; congr 1) ?_
    refine q_bipush (v := 63) C dL_law_30 (by decide) ?_
    obtain ⟨j, hj, ej⟩ := pk_andE (xs (6 * n)) (m := 63) 6 rfl
    refine q_iand (v := (nI j)) C dL_law_32 ej ?_
    clear ej
    by_cases h39 : j < 39
    · rcases (show j = 0 ∨ j = 1 ∨ j = 2 ∨ j = 3 ∨ j = 4 ∨ j = 5 ∨ j = 6 ∨ j = 7 ∨ j = 8 ∨ j = 9 ∨ j = 10 ∨ j = 11 ∨ j = 12 ∨ j = 13 ∨ j = 14 ∨ j = 15 ∨ j = 16 ∨ j = 17 ∨ j = 18 ∨ j = 19 ∨ j = 20 ∨ j = 21 ∨ j = 22 ∨ j = 23 ∨ j = 24 ∨ j = 25 ∨ j = 26 ∨ j = 27 ∨ j = 28 ∨ j = 29 ∨ j = 30 ∨ j = 31 ∨ j = 32 ∨ j = 33 ∨ j = 34 ∨ j = 35 ∨ j = 36 ∨ j = 37 ∨ j = 38 by omega) with rfl | rfl | rfl | rfl | rfl | rfl | rfl | rfl | rfl | rfl | rfl | rfl | rfl | rfl | rfl | rfl | rfl | rfl | rfl | rfl | rfl | rfl | rfl | rfl | rfl | rfl | rfl | rfl | rfl | rfl | rfl | rfl | rfl | rfl | rfl | rfl | rfl | rfl | rfl
      · refine q_tabIn (tgt := 204) (off := 171) C dL_law_33 (by decide) (by decide) (by decide) (by decide) ?_
        exact law_feed C hM hX hbl hzs hz hn6 hLn hI hu ih
      · refine q_tabIn (tgt := 267) (off := 234) C dL_law_33 (by decide) (by decide) (by decide) (by decide) ?_
        exact law_end C hM hX hbl hzs hz hn6 hLn hI hu ih
      · refine q_tabIn (tgt := 290) (off := 257) C dL_law_33 (by decide) (by decide) (by decide) (by decide) ?_
        exact law_table C hM hX hbl hzs hz hn6 hLn hI hu ih
      · refine q_tabIn (tgt := 333) (off := 300) C dL_law_33 (by decide) (by decide) (by decide) (by decide) ?_
        exact law_join C hM hX hbl hzs hz hn6 hLn hI hu ih
      · refine q_tabIn (tgt := 366) (off := 333) C dL_law_33 (by decide) (by decide) (by decide) (by decide) ?_
        exact law_drop C hM hX hbl hzs hz hn6 hLn hI hu ih
      · refine q_tabIn (tgt := 389) (off := 356) C dL_law_33 (by decide) (by decide) (by decide) (by decide) ?_
        exact law_rule C hM hX hbl hzs hz hn6 hLn hI hu ih
      · refine q_tabIn (tgt := 432) (off := 399) C dL_law_33 (by decide) (by decide) (by decide) (by decide) ?_
        exact law_condition C hM hX hbl hzs hz hn6 hLn hI hu ih
      · refine q_tabIn (tgt := 475) (off := 442) C dL_law_33 (by decide) (by decide) (by decide) (by decide) ?_
        exact law_indicator C hM hX hbl hzs hz hn6 hLn hI hu ih
      · refine q_tabIn (tgt := 508) (off := 475) C dL_law_33 (by decide) (by decide) (by decide) (by decide) ?_
        exact law_undo C hM hX hbl hzs hz hn6 hLn hI hu ih
      · refine q_tabIn (tgt := 521) (off := 488) C dL_law_33 (by decide) (by decide) (by decide) (by decide) ?_
        exact law_text C hM hX hbl hzs hz hn6 hLn hI hu ih
      · refine q_tabIn (tgt := 534) (off := 501) C dL_law_33 (by decide) (by decide) (by decide) (by decide) ?_
        exact law_measure C hM hX hbl hzs hz hn6 hLn hI hu ih
      · refine q_tabIn (tgt := 577) (off := 544) C dL_law_33 (by decide) (by decide) (by decide) (by decide) ?_
        exact law_set C hM hX hbl hzs hz hn6 hLn hI hu ih
      · refine q_tabIn (tgt := 600) (off := 567) C dL_law_33 (by decide) (by decide) (by decide) (by decide) ?_
        exact law_head C hM hX hbl hzs hz hn6 hLn hI hu ih
      · refine q_tabIn (tgt := 623) (off := 590) C dL_law_33 (by decide) (by decide) (by decide) (by decide) ?_
        exact law_lines C hM hX hbl hzs hz hn6 hLn hI hu ih
      · refine q_tabIn (tgt := 636) (off := 603) C dL_law_33 (by decide) (by decide) (by decide) (by decide) ?_
        exact law_pages C hM hX hbl hzs hz hn6 hLn hI hu ih
      · refine q_tabIn (tgt := 649) (off := 616) C dL_law_33 (by decide) (by decide) (by decide) (by decide) ?_
        exact law_length C hM hX hbl hzs hz hn6 hLn hI hu ih
      · refine q_tabIn (tgt := 672) (off := 639) C dL_law_33 (by decide) (by decide) (by decide) (by decide) ?_
        exact law_cell C hM hX hbl hzs hz hn6 hLn hI hu ih
      · refine q_tabIn (tgt := 705) (off := 672) C dL_law_33 (by decide) (by decide) (by decide) (by decide) ?_
        exact law_page C hM hX hbl hzs hz hn6 hLn hI hu ih
      · refine q_tabIn (tgt := 748) (off := 715) C dL_law_33 (by decide) (by decide) (by decide) (by decide) ?_
        exact law_cut C hM hX hbl hzs hz hn6 hLn hI hu ih
      · refine q_tabIn (tgt := 781) (off := 748) C dL_law_33 (by decide) (by decide) (by decide) (by decide) ?_
        exact law_lose C hM hX hbl hzs hz hn6 hLn hI hu ih
      · refine q_tabIn (tgt := 804) (off := 771) C dL_law_33 (by decide) (by decide) (by decide) (by decide) ?_
        exact law_copyRow C hM hX hbl hzs hz hn6 hLn hI hu ih
      · refine q_tabIn (tgt := 867) (off := 834) C dL_law_33 (by decide) (by decide) (by decide) (by decide) ?_
        exact law_copyLines C hM hX hbl hzs hz hn6 hLn hI hu ih
      · refine q_tabIn (tgt := 910) (off := 877) C dL_law_33 (by decide) (by decide) (by decide) (by decide) ?_
        exact law_copied C hM hX hbl hzs hz hn6 hLn hI hu ih
      · refine q_tabIn (tgt := 923) (off := 890) C dL_law_33 (by decide) (by decide) (by decide) (by decide) ?_
        exact law_emboss C hM hX hbl hzs hz hn6 hLn hI hu ih
      · refine q_tabIn (tgt := 956) (off := 923) C dL_law_33 (by decide) (by decide) (by decide) (by decide) ?_
        exact law_closed C hM hX hbl hzs hz hn6 hLn hI hu ih
      · refine q_tabIn (tgt := 969) (off := 936) C dL_law_33 (by decide) (by decide) (by decide) (by decide) ?_
        exact law_read C hM hX hbl hzs hz hn6 hLn hI hu ih
      · refine q_tabIn (tgt := 1012) (off := 979) C dL_law_33 (by decide) (by decide) (by decide) (by decide) ?_
        exact law_letter C hM hX hbl hzs hz hn6 hLn hI hu ih
      · refine q_tabIn (tgt := 1035) (off := 1002) C dL_law_33 (by decide) (by decide) (by decide) (by decide) ?_
        exact law_failed C hM hX hbl hzs hz hn6 hLn hI hu ih
      · refine q_tabIn (tgt := 1084) (off := 1051) C dL_law_33 (by decide) (by decide) (by decide) (by decide) ?_
        exact law_readings C hM hX hbl hzs hz hn6 hLn hI hu ih
      · refine q_tabIn (tgt := 1127) (off := 1094) C dL_law_33 (by decide) (by decide) (by decide) (by decide) ?_
        exact law_more C hM hX hbl hzs hz hn6 hLn hI hu ih
      · refine q_tabIn (tgt := 1140) (off := 1107) C dL_law_33 (by decide) (by decide) (by decide) (by decide) ?_
        exact law_reading C hM hX hbl hzs hz hn6 hLn hI hu ih
      · refine q_tabIn (tgt := 1173) (off := 1140) C dL_law_33 (by decide) (by decide) (by decide) (by decide) ?_
        exact law_judge C hM hX hbl hzs hz hn6 hLn hI hu ih
      · refine q_tabIn (tgt := 1196) (off := 1163) C dL_law_33 (by decide) (by decide) (by decide) (by decide) ?_
        exact law_parts C hM hX hbl hzs hz hn6 hLn hI hu ih
      · refine q_tabIn (tgt := 1239) (off := 1206) C dL_law_33 (by decide) (by decide) (by decide) (by decide) ?_
        exact law_unreadable C hM hX hbl hzs hz hn6 hLn hI hu ih
      · refine q_tabIn (tgt := 1282) (off := 1249) C dL_law_33 (by decide) (by decide) (by decide) (by decide) ?_
        exact law_saved C hM hX hbl hzs hz hn6 hLn hI hu ih
      · refine q_tabIn (tgt := 1315) (off := 1282) C dL_law_33 (by decide) (by decide) (by decide) (by decide) ?_
        exact law_place C hM hX hbl hzs hz hn6 hLn hI hu ih
      · refine q_tabIn (tgt := 1328) (off := 1295) C dL_law_33 (by decide) (by decide) (by decide) (by decide) ?_
        exact law_finds C hM hX hbl hzs hz hn6 hLn hI hu ih
      · refine q_tabIn (tgt := 1351) (off := 1318) C dL_law_33 (by decide) (by decide) (by decide) (by decide) ?_
        exact law_status C hM hX hbl hzs hz hn6 hLn hI hu ih
      · refine q_tabIn (tgt := 1364) (off := 1331) C dL_law_33 (by decide) (by decide) (by decide) (by decide) ?_
        exact law_digest C hM hX hbl hzs hz hn6 hLn hI hu ih
    · refine q_tabOut (tgt := 1377) C dL_law_33 (Or.inr (by rw [nI_toInt (by omega)]; omega)) (by decide) ?_
      exact law_tail C (hI.next.le (by omega)) hu ih
