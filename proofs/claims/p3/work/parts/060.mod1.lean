set_option maxHeartbeats 4000000 in
set_option maxRecDepth 100000 in
theorem s_isIn {l : Launch} {G : GT} {L : List Nat} {E : Nat → va_E} (x lo hi : Int32) : Mq l G yX12_isIn cX12_isIn 3 (some .boolean) 0 [.int x, .int lo, .int hi] L E 0 0 (fun v L2 E2 => v = some (.int (inn x lo hi)) ∧ L2 = L ∧ E2 = E) := by
  refine Mq.mk (by decide) (Nat.le_of_ble_eq_true rfl) ?_
  intro p e s m args below meth c A C
  refine q_iload_n (j := 0) C dX12_isIn_0 rfl ?_
  refine q_iload_n (j := 1) C dX12_isIn_1 rfl ?_
  refine q_icmp_lt (tgt := 14) C dX12_isIn_2 (by decide) (fun c1 => ?_) (fun c1 => ?_)
  · refine q_iconst (v := 0) C dX12_isIn_14 (by decide) ?_
    exact q_zret C dX12_isIn_15 rfl (by decide) (Nat.le_of_ble_eq_true rfl) (Nat.le_of_ble_eq_true rfl) ⟨(by refine congrArg (fun z => some (Value.int z)) ?_; unfold inn; (try simp only [i32_lt, i32_le, i32_eq, inn_f, Decidable.not_not, tn_m1, tn_0, tn_1, tn_2, tn_3, tn_4, tn_5, tn_6, tn_7, tn_8, tn_10, tn_30, tn_31, tn_32, tn_36, tn_40, tn_50, tn_100, tn_126, tn_200, tn_255, tn_500, tn_512, tn_3000, tn_5000] at c1); split <;> rename_i hz <;> (try simp only [i32_lt, i32_le, i32_eq, inn_f, Decidable.not_not, tn_m1, tn_0, tn_1, tn_2, tn_3, tn_4, tn_5, tn_6, tn_7, tn_8, tn_10, tn_30, tn_31, tn_32, tn_36, tn_40, tn_50, tn_100, tn_126, tn_200, tn_255, tn_500, tn_512, tn_3000, tn_5000] at hz) <;> first | rfl | (exfalso; omega)), rfl, rfl⟩
  · refine q_iload_n (j := 0) C dX12_isIn_5 rfl ?_
    refine q_iload_n (j := 2) C dX12_isIn_6 rfl ?_
    refine q_icmp_gt (tgt := 14) C dX12_isIn_7 (by decide) (fun c2 => ?_) (fun c2 => ?_)
    · refine q_iconst (v := 0) C dX12_isIn_14 (by decide) ?_
      exact q_zret C dX12_isIn_15 rfl (by decide) (Nat.le_of_ble_eq_true rfl) (Nat.le_of_ble_eq_true rfl) ⟨(by refine congrArg (fun z => some (Value.int z)) ?_; unfold inn; (try simp only [i32_lt, i32_le, i32_eq, inn_f, Decidable.not_not, tn_m1, tn_0, tn_1, tn_2, tn_3, tn_4, tn_5, tn_6, tn_7, tn_8, tn_10, tn_30, tn_31, tn_32, tn_36, tn_40, tn_50, tn_100, tn_126, tn_200, tn_255, tn_500, tn_512, tn_3000, tn_5000] at c1); (try simp only [i32_lt, i32_le, i32_eq, inn_f, Decidable.not_not, tn_m1, tn_0, tn_1, tn_2, tn_3, tn_4, tn_5, tn_6, tn_7, tn_8, tn_10, tn_30, tn_31, tn_32, tn_36, tn_40, tn_50, tn_100, tn_126, tn_200, tn_255, tn_500, tn_512, tn_3000, tn_5000] at c2); split <;> rename_i hz <;> (try simp only [i32_lt, i32_le, i32_eq, inn_f, Decidable.not_not, tn_m1, tn_0, tn_1, tn_2, tn_3, tn_4, tn_5, tn_6, tn_7, tn_8, tn_10, tn_30, tn_31, tn_32, tn_36, tn_40, tn_50, tn_100, tn_126, tn_200, tn_255, tn_500, tn_512, tn_3000, tn_5000] at hz) <;> first | rfl | (exfalso; omega)), rfl, rfl⟩
    · refine q_iconst (v := 1) C dX12_isIn_10 (by decide) ?_
      refine q_goto (tgt := 15) C dX12_isIn_11 (by decide) ?_
      exact q_zret C dX12_isIn_15 rfl (by decide) (Nat.le_of_ble_eq_true rfl) (Nat.le_of_ble_eq_true rfl) ⟨(by refine congrArg (fun z => some (Value.int z)) ?_; unfold inn; (try simp only [i32_lt, i32_le, i32_eq, inn_f, Decidable.not_not, tn_m1, tn_0, tn_1, tn_2, tn_3, tn_4, tn_5, tn_6, tn_7, tn_8, tn_10, tn_30, tn_31, tn_32, tn_36, tn_40, tn_50, tn_100, tn_126, tn_200, tn_255, tn_500, tn_512, tn_3000, tn_5000] at c1); (try simp only [i32_lt, i32_le, i32_eq, inn_f, Decidable.not_not, tn_m1, tn_0, tn_1, tn_2, tn_3, tn_4, tn_5, tn_6, tn_7, tn_8, tn_10, tn_30, tn_31, tn_32, tn_36, tn_40, tn_50, tn_100, tn_126, tn_200, tn_255, tn_500, tn_512, tn_3000, tn_5000] at c2); split <;> rename_i hz <;> (try simp only [i32_lt, i32_le, i32_eq, inn_f, Decidable.not_not, tn_m1, tn_0, tn_1, tn_2, tn_3, tn_4, tn_5, tn_6, tn_7, tn_8, tn_10, tn_30, tn_31, tn_32, tn_36, tn_40, tn_50, tn_100, tn_126, tn_200, tn_255, tn_500, tn_512, tn_3000, tn_5000] at hz) <;> first | rfl | (exfalso; omega)), rfl, rfl⟩
theorem inn_c {x lo hi : Int} (hx : R32 x) (h1 : R32 lo) (h2 : R32 hi) : (lo ≤ x ∧ x ≤ hi ∧ inn (iI x) (iI lo) (iI hi) = iI 1) ∨ (¬ (lo ≤ x ∧ x ≤ hi) ∧ inn (iI x) (iI lo) (iI hi) = iI 0) := by
  unfold inn
  by_cases h : lo ≤ x ∧ x ≤ hi
  · exact Or.inl ⟨h.1, h.2, if_pos ⟨(iI_le h1 hx).mpr h.1, (iI_le hx h2).mpr h.2⟩⟩
  · exact Or.inr ⟨h, if_neg (fun q => h ⟨(iI_le h1 hx).mp q.1, (iI_le hx h2).mp q.2⟩)⟩
set_option maxHeartbeats 4000000 in
set_option maxRecDepth 100000 in
theorem M_fine {l : Launch} {G : GT} {h0 : Nat} {ad ln : Nat → Nat} {v : Nat → Int} {a : Nat → Nat → Int} {x : Int}  : Mm l G yX12_fine cX12_fine 2 (some .int) 0 [.int (iI x)] h0 ad ln v a 0 0 (fun r v2 a2 => r = some (.int (iI x)) ∧ v2 = va_up (va_up v 0 0) 1 (-1) ∧ a = a2) := by
  refine Mm.mk (by decide) (Nat.le_of_ble_eq_true rfl) ?_
  intro p e s m args below meth c A C
  refine m_aload_n (j := 0) C dX12_fine_0 rfl ?_
  refine m_iconst C dX12_fine_1 ?_
  refine m_put (k := 0) (z := 0) C dX12_fine_2 w6_59 (by decide) rfl rfl rfl ?_
  refine m_aload_n (j := 0) C dX12_fine_5 rfl ?_
  refine m_iconst C dX12_fine_6 ?_
  refine m_put (k := 1) (z := (-1)) C dX12_fine_7 w6_60 (by decide) rfl rfl rfl ?_
  refine m_iload_n (j := 1) C dX12_fine_10 rfl ?_
  exact m_iret C dX12_fine_11 rfl (Nat.le_of_ble_eq_true rfl) (Nat.le_of_ble_eq_true rfl) ⟨rfl, rfl, rfl⟩
set_option maxHeartbeats 4000000 in
set_option maxRecDepth 100000 in
theorem M_bad {l : Launch} {G : GT} {h0 : Nat} {ad ln : Nat → Nat} {v : Nat → Int} {a : Nat → Nat → Int} {x : Int}  : Mm l G yX12_bad cX12_bad 2 (some .int) 0 [.int (iI x)] h0 ad ln v a 0 0 (fun r v2 a2 => r = some (.int (iI (-1))) ∧ v2 = va_up (va_up v 0 x) 1 (-1) ∧ a = a2) := by
  refine Mm.mk (by decide) (Nat.le_of_ble_eq_true rfl) ?_
  intro p e s m args below meth c A C
  refine m_aload_n (j := 0) C dX12_bad_0 rfl ?_
  refine m_iload_n (j := 1) C dX12_bad_1 rfl ?_
  refine m_put (k := 0) (z := x) C dX12_bad_2 w6_59 (by decide) rfl rfl rfl ?_
  refine m_aload_n (j := 0) C dX12_bad_5 rfl ?_
  refine m_iconst C dX12_bad_6 ?_
  refine m_put (k := 1) (z := (-1)) C dX12_bad_7 w6_60 (by decide) rfl rfl rfl ?_
  refine m_iconst C dX12_bad_10 ?_
  exact m_iret C dX12_bad_11 rfl (Nat.le_of_ble_eq_true rfl) (Nat.le_of_ble_eq_true rfl) ⟨rfl, rfl, rfl⟩
set_option maxHeartbeats 4000000 in
set_option maxRecDepth 100000 in
theorem M_taken {l : Launch} {G : GT} {h0 : Nat} {ad ln : Nat → Nat} {v : Nat → Int} {a : Nat → Nat → Int}  : Mm l G yX12_taken cX12_taken 2 (some .int) 0 [] h0 ad ln v a 0 0 (fun r v2 a2 => r = some (.int (iI (v 3))) ∧ v2 = va_up v 3 0 ∧ a = a2) := by
  refine Mm.mk (by decide) (Nat.le_of_ble_eq_true rfl) ?_
  intro p e s m args below meth c A C
  refine m_aload_n (j := 0) C dX12_taken_0 rfl ?_
  refine m_get (k := 3) C dX12_taken_1 w6_62 (by decide) rfl ?_
  refine m_istore_n (lv2 := [(1, .int (iI (v 3))), (0, .ref h0)]) C dX12_taken_4 (by decide) rfl ?_
  refine m_aload_n (j := 1) C dX12_taken_5 rfl ?_
  refine m_iconst C dX12_taken_6 ?_
  refine m_put (k := 3) (z := 0) C dX12_taken_7 w6_62 (by decide) rfl rfl rfl ?_
  refine m_iload_n (j := 0) C dX12_taken_10 rfl ?_
  exact m_iret C dX12_taken_11 rfl (Nat.le_of_ble_eq_true rfl) (Nat.le_of_ble_eq_true rfl) ⟨rfl, rfl, rfl⟩
def RG (v : Nat → Int) (a : Nat → Nat → Int) : Prop := (∀ k, R32 (v k)) ∧ ∀ k j, R32 (a k j)
set_option maxHeartbeats 4000000 in
set_option maxRecDepth 100000 in
theorem M_isTable {l : Launch} {G : GT} {h0 : Nat} {ad ln : Nat → Nat} {v : Nat → Int} {a : Nat → Nat → Int} {t : Int} (ht : R32 t) (hv : 0 ≤ v 4 ∧ v 4 ≤ 30) (hb : ∀ j, a 5 j = 0 ∨ a 5 j = 1) : Mm l G yX12_isTable cX12_isTable 2 (some .boolean) 0 [.int (iI t)] h0 ad ln v a 0 0 (fun r v2 a2 => (r = some (.int (iI 1)) ∧ 0 ≤ t ∧ t < v 4 ∧ a 5 t.toNat = 1 ∨ r = some (.int (iI 0))) ∧ v = v2 ∧ a = a2) := by
  refine Mm.mk (by decide) (Nat.le_of_ble_eq_true rfl) ?_
  intro p e s m args below meth c A C
  refine m_iload_n (j := 1) C dX12_isTable_0 rfl ?_
  refine m_if_lt (tgt := 25) C ⟨by omega, by omega⟩ dX12_isTable_1 (by decide) (fun c1 => ?_) (fun c1 => ?_)
  · refine m_iconst C dX12_isTable_25 ?_
    exact m_zret C dX12_isTable_26 rfl (Or.inl rfl) (Nat.le_of_ble_eq_true rfl) (Nat.le_of_ble_eq_true rfl) ⟨Or.inr rfl, rfl, rfl⟩
  · refine m_iload_n (j := 1) C dX12_isTable_4 rfl ?_
    refine m_aload_n (j := 0) C dX12_isTable_5 rfl ?_
    refine m_get (k := 4) C dX12_isTable_6 w6_63 (by decide) rfl ?_
    refine m_icmp_ge (tgt := 25) C ⟨by omega, by omega⟩ ⟨by omega, by omega⟩ dX12_isTable_9 (by decide) (fun c2 => ?_) (fun c2 => ?_)
    · refine m_iconst C dX12_isTable_25 ?_
      exact m_zret C dX12_isTable_26 rfl (Or.inl rfl) (Nat.le_of_ble_eq_true rfl) (Nat.le_of_ble_eq_true rfl) ⟨Or.inr rfl, rfl, rfl⟩
    · refine m_aload_n (j := 0) C dX12_isTable_12 rfl ?_
      refine m_geta (k := 5) C dX12_isTable_13 w6_64 (by decide) rfl ?_
      refine m_iload_n (j := 1) C dX12_isTable_16 rfl ?_
      refine m_zald (k := 5) C dX12_isTable_17 rfl rfl (by decide) (by omega) (by show _ < ((_ : Nat) : Int); simp only [mlen]; omega) (by decide) ?_
      have hb0 := hb t.toNat
      refine m_if_eq (tgt := 25) C ⟨by omega, by omega⟩ dX12_isTable_18 (by decide) (fun c3 => ?_) (fun c3 => ?_)
      · refine m_iconst C dX12_isTable_25 ?_
        exact m_zret C dX12_isTable_26 rfl (Or.inl rfl) (Nat.le_of_ble_eq_true rfl) (Nat.le_of_ble_eq_true rfl) ⟨Or.inr rfl, rfl, rfl⟩
      · refine m_iconst C dX12_isTable_21 ?_
        refine m_goto (tgt := 26) C dX12_isTable_22 (by decide) ?_
        exact m_zret C dX12_isTable_26 rfl (Or.inr rfl) (Nat.le_of_ble_eq_true rfl) (Nat.le_of_ble_eq_true rfl) ⟨Or.inl ⟨rfl, by omega, by omega, by omega⟩, rfl, rfl⟩
set_option maxHeartbeats 4000000 in
set_option maxRecDepth 100000 in
theorem M_measure {l : Launch} {G : GT} {h0 : Nat} {ad ln : Nat → Nat} {v : Nat → Int} {a : Nat → Nat → Int} {w1 h1 y1 : Int} (hw : R32 w1) (hh : R32 h1) (hy : R32 y1) : Mm l G yX12_measure cX12_measure 4 (some .int) 1 [.int (iI w1), .int (iI h1), .int (iI y1)] h0 ad ln v a 0 0 (fun r v2 a2 => a = a2 ∧ ∀ k, k ≠ 0 → k ≠ 1 → k ≠ 31 → k ≠ 32 → k ≠ 33 → v2 k = v k) := by
  refine Mm.mk (by decide) (Nat.le_of_ble_eq_true rfl) ?_
  intro p e s m args below meth c A C
  refine m_iload_n (j := 1) C dX12_measure_0 rfl ?_
  refine m_iconst C dX12_measure_1 ?_
  refine m_bipush (z := 100) C dX12_measure_2 (by decide) ?_
  refine m_callS (As := [.int (iI w1), .int (iI 1), .int (iI 100)]) (rest := []) C (fun L E => s_isIn (iI w1) (iI 1) (iI 100)) dX12_measure_4 kS_X12_174 rfl rfl (Nat.le_of_ble_eq_true rfl) ⟨Nat.le_of_ble_eq_true rfl, Nat.le_of_ble_eq_true rfl⟩ ⟨Nat.le_of_ble_eq_true rfl, Nat.le_of_ble_eq_true rfl⟩ ?_
  rcases inn_c (x := w1) (lo := 1) (hi := 100) ⟨by omega, by omega⟩ ⟨by decide, by decide⟩ ⟨by decide, by decide⟩ with ⟨h1a, h1b, h1e⟩ | ⟨h1a, h1e⟩
  · refine m_st (st2 := [.int (iI 1)]) (by rw [h1e]) ?_
    refine m_if_eq (tgt := 31) C ⟨by decide, by decide⟩ dX12_measure_7 (by decide) (fun z => absurd z (by omega)) (fun _ => ?_)
    refine m_iload_n (j := 2) C dX12_measure_10 rfl ?_
    refine m_iconst C dX12_measure_11 ?_
    refine m_bipush (z := 50) C dX12_measure_12 (by decide) ?_
    refine m_callS (As := [.int (iI h1), .int (iI 1), .int (iI 50)]) (rest := []) C (fun L E => s_isIn (iI h1) (iI 1) (iI 50)) dX12_measure_14 kS_X12_174 rfl rfl (Nat.le_of_ble_eq_true rfl) ⟨Nat.le_of_ble_eq_true rfl, Nat.le_of_ble_eq_true rfl⟩ ⟨Nat.le_of_ble_eq_true rfl, Nat.le_of_ble_eq_true rfl⟩ ?_
    rcases inn_c (x := h1) (lo := 1) (hi := 50) ⟨by omega, by omega⟩ ⟨by decide, by decide⟩ ⟨by decide, by decide⟩ with ⟨h2a, h2b, h2e⟩ | ⟨h2a, h2e⟩
    · refine m_st (st2 := [.int (iI 1)]) (by rw [h2e]) ?_
      refine m_if_eq (tgt := 31) C ⟨by decide, by decide⟩ dX12_measure_17 (by decide) (fun z => absurd z (by omega)) (fun _ => ?_)
      refine m_iload_n (j := 3) C dX12_measure_20 rfl ?_
      refine m_iconst C dX12_measure_21 ?_
      refine m_sipush (z := 255) C dX12_measure_22 (by decide) ?_
      refine m_callS (As := [.int (iI y1), .int (iI 1), .int (iI 255)]) (rest := []) C (fun L E => s_isIn (iI y1) (iI 1) (iI 255)) dX12_measure_25 kS_X12_174 rfl rfl (Nat.le_of_ble_eq_true rfl) ⟨Nat.le_of_ble_eq_true rfl, Nat.le_of_ble_eq_true rfl⟩ ⟨Nat.le_of_ble_eq_true rfl, Nat.le_of_ble_eq_true rfl⟩ ?_
      rcases inn_c (x := y1) (lo := 1) (hi := 255) ⟨by omega, by omega⟩ ⟨by decide, by decide⟩ ⟨by decide, by decide⟩ with ⟨h3a, h3b, h3e⟩ | ⟨h3a, h3e⟩
      · refine m_st (st2 := [.int (iI 1)]) (by rw [h3e]) ?_
        refine m_if_ne (tgt := 38) C ⟨by decide, by decide⟩ dX12_measure_28 (by decide) (fun _ => ?_) (fun z => absurd z (by omega))
        refine m_aload_n (j := 0) C dX12_measure_38 rfl ?_
        refine m_iload_n (j := 1) C dX12_measure_39 rfl ?_
        refine m_put (k := 31) (z := w1) C dX12_measure_40 w6_90 (by decide) rfl rfl rfl ?_
        refine m_aload_n (j := 0) C dX12_measure_43 rfl ?_
        refine m_iload_n (j := 2) C dX12_measure_44 rfl ?_
        refine m_put (k := 32) (z := h1) C dX12_measure_45 w6_91 (by decide) rfl rfl rfl ?_
        refine m_aload_n (j := 0) C dX12_measure_48 rfl ?_
        refine m_iload_n (j := 3) C dX12_measure_49 rfl ?_
        refine m_put (k := 33) (z := y1) C dX12_measure_50 w6_92 (by decide) rfl rfl rfl ?_
        refine m_aload_n (j := 0) C dX12_measure_53 rfl ?_
        refine m_iconst C dX12_measure_54 ?_
        refine m_call (mc2 := 0) (ms2 := 0) (As := [.int (iI 1)]) (rest := []) C (M_fine (x := 1)) dX12_measure_55 kV_X12_158 rfl ck_13 rfl (Nat.le_of_ble_eq_true rfl) ⟨Nat.le_of_ble_eq_true rfl, Nat.le_of_ble_eq_true rfl⟩ ⟨Nat.le_of_ble_eq_true rfl, Nat.le_of_ble_eq_true rfl⟩ (fun rh4 vh4 ah4 h4 => ?_)
        obtain ⟨rfl, rfl, rfl⟩ := h4
        refine m_st (st2 := [.int (iI 1)]) rfl ?_
        exact m_iret C dX12_measure_58 rfl (Nat.le_of_ble_eq_true rfl) (Nat.le_of_ble_eq_true rfl) ⟨rfl, fun k n0 n1 n2 n3 n4 => by simp [va_up, n0, n1, n2, n3, n4]⟩
      · refine m_st (st2 := [.int (iI 0)]) (by rw [h3e]) ?_
        refine m_if_ne (tgt := 38) C ⟨by decide, by decide⟩ dX12_measure_28 (by decide) (fun z => absurd z (by omega)) (fun _ => ?_)
        refine m_aload_n (j := 0) C dX12_measure_31 rfl ?_
        refine m_bipush (z := 6) C dX12_measure_32 (by decide) ?_
        refine m_call (mc2 := 0) (ms2 := 0) (As := [.int (iI 6)]) (rest := []) C (M_bad (x := 6)) dX12_measure_34 kV_X12_154 rfl ck_13 rfl (Nat.le_of_ble_eq_true rfl) ⟨Nat.le_of_ble_eq_true rfl, Nat.le_of_ble_eq_true rfl⟩ ⟨Nat.le_of_ble_eq_true rfl, Nat.le_of_ble_eq_true rfl⟩ (fun rh5 vh5 ah5 h5 => ?_)
        obtain ⟨rfl, rfl, rfl⟩ := h5
        refine m_st (st2 := [.int (iI (-1))]) rfl ?_
        exact m_iret C dX12_measure_37 rfl (Nat.le_of_ble_eq_true rfl) (Nat.le_of_ble_eq_true rfl) ⟨rfl, fun k n0 n1 n2 n3 n4 => by simp [va_up, n0, n1, n2, n3, n4]⟩
    · refine m_st (st2 := [.int (iI 0)]) (by rw [h2e]) ?_
      refine m_if_eq (tgt := 31) C ⟨by decide, by decide⟩ dX12_measure_17 (by decide) (fun _ => ?_) (fun z => absurd z (by omega))
      refine m_aload_n (j := 0) C dX12_measure_31 rfl ?_
      refine m_bipush (z := 6) C dX12_measure_32 (by decide) ?_
      refine m_call (mc2 := 0) (ms2 := 0) (As := [.int (iI 6)]) (rest := []) C (M_bad (x := 6)) dX12_measure_34 kV_X12_154 rfl ck_13 rfl (Nat.le_of_ble_eq_true rfl) ⟨Nat.le_of_ble_eq_true rfl, Nat.le_of_ble_eq_true rfl⟩ ⟨Nat.le_of_ble_eq_true rfl, Nat.le_of_ble_eq_true rfl⟩ (fun rh6 vh6 ah6 h6 => ?_)
      obtain ⟨rfl, rfl, rfl⟩ := h6
      refine m_st (st2 := [.int (iI (-1))]) rfl ?_
      exact m_iret C dX12_measure_37 rfl (Nat.le_of_ble_eq_true rfl) (Nat.le_of_ble_eq_true rfl) ⟨rfl, fun k n0 n1 n2 n3 n4 => by simp [va_up, n0, n1, n2, n3, n4]⟩
  · refine m_st (st2 := [.int (iI 0)]) (by rw [h1e]) ?_
    refine m_if_eq (tgt := 31) C ⟨by decide, by decide⟩ dX12_measure_7 (by decide) (fun _ => ?_) (fun z => absurd z (by omega))
    refine m_aload_n (j := 0) C dX12_measure_31 rfl ?_
    refine m_bipush (z := 6) C dX12_measure_32 (by decide) ?_
    refine m_call (mc2 := 0) (ms2 := 0) (As := [.int (iI 6)]) (rest := []) C (M_bad (x := 6)) dX12_measure_34 kV_X12_154 rfl ck_13 rfl (Nat.le_of_ble_eq_true rfl) ⟨Nat.le_of_ble_eq_true rfl, Nat.le_of_ble_eq_true rfl⟩ ⟨Nat.le_of_ble_eq_true rfl, Nat.le_of_ble_eq_true rfl⟩ (fun rh7 vh7 ah7 h7 => ?_)
    obtain ⟨rfl, rfl, rfl⟩ := h7
    refine m_st (st2 := [.int (iI (-1))]) rfl ?_
    exact m_iret C dX12_measure_37 rfl (Nat.le_of_ble_eq_true rfl) (Nat.le_of_ble_eq_true rfl) ⟨rfl, fun k n0 n1 n2 n3 n4 => by simp [va_up, n0, n1, n2, n3, n4]⟩
set_option maxHeartbeats 4000000 in
set_option maxRecDepth 100000 in
theorem M_end {l : Launch} {G : GT} {h0 : Nat} {ad ln : Nat → Nat} {v : Nat → Int} {a : Nat → Nat → Int} {n : Int} (hn : R32 n) (hv : 0 ≤ v 3 ∧ v 3 ≤ 3000) : Mm l G yX12_end cX12_end 2 (some .int) 1 [.int (iI n)] h0 ad ln v a 0 0 (fun r v2 a2 => a = a2 ∧ (∀ k, k ≠ 0 → k ≠ 1 → k ≠ 3 → v2 k = v k) ∧ (0 ≤ v2 3 ∧ v2 3 ≤ 3000)) := by
  refine Mm.mk (by decide) (Nat.le_of_ble_eq_true rfl) ?_
  intro p e s m args below meth c A C
  refine m_iload_n (j := 1) C dX12_end_0 rfl ?_
  refine m_if_ge (tgt := 10) C ⟨by omega, by omega⟩ dX12_end_1 (by decide) (fun c1 => ?_) (fun c1 => ?_)
  · refine m_iload_n (j := 1) C dX12_end_10 rfl ?_
    refine m_aload_n (j := 0) C dX12_end_11 rfl ?_
    refine m_get (k := 3) C dX12_end_12 w6_62 (by decide) rfl ?_
    refine m_icmp_le (tgt := 25) C ⟨by omega, by omega⟩ ⟨by omega, by omega⟩ dX12_end_15 (by decide) (fun c2 => ?_) (fun c2 => ?_)
    · refine m_aload_n (j := 0) C dX12_end_25 rfl ?_
      refine m_iload_n (j := 1) C dX12_end_26 rfl ?_
      refine m_put (k := 3) (z := n) C dX12_end_27 w6_62 (by decide) rfl rfl rfl ?_
      refine m_aload_n (j := 0) C dX12_end_30 rfl ?_
      refine m_iload_n (j := 1) C dX12_end_31 rfl ?_
      refine m_call (mc2 := 0) (ms2 := 0) (As := [.int (iI n)]) (rest := []) C (M_fine (x := n)) dX12_end_32 kV_X12_158 rfl ck_13 rfl (Nat.le_of_ble_eq_true rfl) ⟨Nat.le_of_ble_eq_true rfl, Nat.le_of_ble_eq_true rfl⟩ ⟨Nat.le_of_ble_eq_true rfl, Nat.le_of_ble_eq_true rfl⟩ (fun rh1 vh1 ah1 h1 => ?_)
      obtain ⟨rfl, rfl, rfl⟩ := h1
      refine m_st (st2 := [.int (iI n)]) rfl ?_
      exact m_iret C dX12_end_35 rfl (Nat.le_of_ble_eq_true rfl) (Nat.le_of_ble_eq_true rfl) ⟨rfl, fun k n0 n1 n2 => by simp [va_up, n0, n1, n2], (by show 0 ≤ n ∧ n ≤ 3000; omega)⟩
    · refine m_aload_n (j := 0) C dX12_end_18 rfl ?_
      refine m_bipush (z := 6) C dX12_end_19 (by decide) ?_
      refine m_call (mc2 := 0) (ms2 := 0) (As := [.int (iI 6)]) (rest := []) C (M_bad (x := 6)) dX12_end_21 kV_X12_154 rfl ck_13 rfl (Nat.le_of_ble_eq_true rfl) ⟨Nat.le_of_ble_eq_true rfl, Nat.le_of_ble_eq_true rfl⟩ ⟨Nat.le_of_ble_eq_true rfl, Nat.le_of_ble_eq_true rfl⟩ (fun rh2 vh2 ah2 h2 => ?_)
      obtain ⟨rfl, rfl, rfl⟩ := h2
      refine m_st (st2 := [.int (iI (-1))]) rfl ?_
      exact m_iret C dX12_end_24 rfl (Nat.le_of_ble_eq_true rfl) (Nat.le_of_ble_eq_true rfl) ⟨rfl, fun k n0 n1 n2 => by simp [va_up, n0, n1, n2], hv⟩
  · refine m_aload_n (j := 0) C dX12_end_4 rfl ?_
    refine m_iconst C dX12_end_5 ?_
    refine m_call (mc2 := 0) (ms2 := 0) (As := [.int (iI 5)]) (rest := []) C (M_bad (x := 5)) dX12_end_6 kV_X12_154 rfl ck_13 rfl (Nat.le_of_ble_eq_true rfl) ⟨Nat.le_of_ble_eq_true rfl, Nat.le_of_ble_eq_true rfl⟩ ⟨Nat.le_of_ble_eq_true rfl, Nat.le_of_ble_eq_true rfl⟩ (fun rh3 vh3 ah3 h3 => ?_)
    obtain ⟨rfl, rfl, rfl⟩ := h3
    refine m_st (st2 := [.int (iI (-1))]) rfl ?_
    exact m_iret C dX12_end_9 rfl (Nat.le_of_ble_eq_true rfl) (Nat.le_of_ble_eq_true rfl) ⟨rfl, fun k n0 n1 n2 => by simp [va_up, n0, n1, n2], hv⟩
set_option maxHeartbeats 4000000 in
set_option maxRecDepth 100000 in
theorem M_lines {l : Launch} {G : GT} {h0 : Nat} {ad ln : Nat → Nat} {v : Nat → Int} {a : Nat → Nat → Int}  : Mm l G yX12_lines cX12_lines 1 (some .int) 0 [] h0 ad ln v a 0 0 (fun r v2 a2 => r = some (.int (iI (v 36))) ∧ v = v2 ∧ a = a2) := by
  refine Mm.mk (by decide) (Nat.le_of_ble_eq_true rfl) ?_
  intro p e s m args below meth c A C
  refine m_aload_n (j := 0) C dX12_lines_0 rfl ?_
  refine m_get (k := 36) C dX12_lines_1 w6_95 (by decide) rfl ?_
  exact m_iret C dX12_lines_4 rfl (Nat.le_of_ble_eq_true rfl) (Nat.le_of_ble_eq_true rfl) ⟨rfl, rfl, rfl⟩
set_option maxHeartbeats 4000000 in
set_option maxRecDepth 100000 in
theorem M_copied {l : Launch} {G : GT} {h0 : Nat} {ad ln : Nat → Nat} {v : Nat → Int} {a : Nat → Nat → Int}  : Mm l G yX12_copied cX12_copied 1 (some .int) 0 [] h0 ad ln v a 0 0 (fun r v2 a2 => r = some (.int (iI (v 42))) ∧ v = v2 ∧ a = a2) := by
  refine Mm.mk (by decide) (Nat.le_of_ble_eq_true rfl) ?_
  intro p e s m args below meth c A C
  refine m_aload_n (j := 0) C dX12_copied_0 rfl ?_
  refine m_get (k := 42) C dX12_copied_1 w6_101 (by decide) rfl ?_
  exact m_iret C dX12_copied_4 rfl (Nat.le_of_ble_eq_true rfl) (Nat.le_of_ble_eq_true rfl) ⟨rfl, rfl, rfl⟩
set_option maxHeartbeats 4000000 in
set_option maxRecDepth 100000 in
theorem M_closed {l : Launch} {G : GT} {h0 : Nat} {ad ln : Nat → Nat} {v : Nat → Int} {a : Nat → Nat → Int}  : Mm l G yX12_closed cX12_closed 1 (some .int) 0 [] h0 ad ln v a 0 0 (fun r v2 a2 => r = some (.int (iI (v 43))) ∧ v = v2 ∧ a = a2) := by
  refine Mm.mk (by decide) (Nat.le_of_ble_eq_true rfl) ?_
  intro p e s m args below meth c A C
  refine m_aload_n (j := 0) C dX12_closed_0 rfl ?_
  refine m_get (k := 43) C dX12_closed_1 w6_102 (by decide) rfl ?_
  exact m_iret C dX12_closed_4 rfl (Nat.le_of_ble_eq_true rfl) (Nat.le_of_ble_eq_true rfl) ⟨rfl, rfl, rfl⟩
set_option maxHeartbeats 4000000 in
set_option maxRecDepth 100000 in
theorem M_more {l : Launch} {G : GT} {h0 : Nat} {ad ln : Nat → Nat} {v : Nat → Int} {a : Nat → Nat → Int}  : Mm l G yX12_more cX12_more 1 (some .int) 0 [] h0 ad ln v a 0 0 (fun r v2 a2 => r = some (.int (iI (v 61))) ∧ v = v2 ∧ a = a2) := by
  refine Mm.mk (by decide) (Nat.le_of_ble_eq_true rfl) ?_
  intro p e s m args below meth c A C
  refine m_aload_n (j := 0) C dX12_more_0 rfl ?_
  refine m_get (k := 61) C dX12_more_1 w6_120 (by decide) rfl ?_
  exact m_iret C dX12_more_4 rfl (Nat.le_of_ble_eq_true rfl) (Nat.le_of_ble_eq_true rfl) ⟨rfl, rfl, rfl⟩
set_option maxHeartbeats 4000000 in
set_option maxRecDepth 100000 in
theorem M_place {l : Launch} {G : GT} {h0 : Nat} {ad ln : Nat → Nat} {v : Nat → Int} {a : Nat → Nat → Int}  : Mm l G yX12_place cX12_place 1 (some .int) 0 [] h0 ad ln v a 0 0 (fun r v2 a2 => r = some (.int (iI (v 1))) ∧ v = v2 ∧ a = a2) := by
  refine Mm.mk (by decide) (Nat.le_of_ble_eq_true rfl) ?_
  intro p e s m args below meth c A C
  refine m_aload_n (j := 0) C dX12_place_0 rfl ?_
  refine m_get (k := 1) C dX12_place_1 w6_60 (by decide) rfl ?_
  exact m_iret C dX12_place_4 rfl (Nat.le_of_ble_eq_true rfl) (Nat.le_of_ble_eq_true rfl) ⟨rfl, rfl, rfl⟩
set_option maxHeartbeats 4000000 in
set_option maxRecDepth 100000 in
theorem M_status {l : Launch} {G : GT} {h0 : Nat} {ad ln : Nat → Nat} {v : Nat → Int} {a : Nat → Nat → Int}  : Mm l G yX12_status cX12_status 1 (some .int) 0 [] h0 ad ln v a 0 0 (fun r v2 a2 => r = some (.int (iI (v 0))) ∧ v = v2 ∧ a = a2) := by
  refine Mm.mk (by decide) (Nat.le_of_ble_eq_true rfl) ?_
  intro p e s m args below meth c A C
  refine m_aload_n (j := 0) C dX12_status_0 rfl ?_
  refine m_get (k := 0) C dX12_status_1 w6_59 (by decide) rfl ?_
  exact m_iret C dX12_status_4 rfl (Nat.le_of_ble_eq_true rfl) (Nat.le_of_ble_eq_true rfl) ⟨rfl, rfl, rfl⟩
def Iln (v : Nat → Int) (a : Nat → Nat → Int) : Prop := (0 ≤ v 36 ∧ v 36 ≤ 200) ∧ ∀ j, -1 ≤ a 34 j ∧ a 34 j ≤ 200
def Ims (v : Nat → Int) : Prop := (1 ≤ v 31 ∧ v 31 ≤ 100) ∧ (1 ≤ v 32 ∧ v 32 ≤ 50)
def Ihd (v : Nat → Int) : Prop := 0 ≤ v 41 ∧ v 41 ≤ 200
def Iou (v : Nat → Int) : Prop := 0 ≤ v 52 ∧ v 52 ≤ 4000
def Ikp (v : Nat → Int) (a : Nat → Nat → Int) : Prop := (0 ≤ v 60 ∧ v 60 ≤ 50) ∧ ∀ j, 0 ≤ a 59 j ∧ a 59 j ≤ 808
theorem RG.put {v : Nat → Int} {a : Nat → Nat → Int} {k : Nat} {z : Int} (h : RG v a) (hz : R32 z) : RG (va_up v k z) a := ⟨fun j => by unfold va_up; split; exact hz; exact h.1 j, h.2⟩
theorem RG.set {v : Nat → Int} {a : Nat → Nat → Int} {k i : Nat} {z : Int} (h : RG v a) (hz : R32 z) : RG v (up2 a k i z) := ⟨h.1, fun k2 j => by unfold up2; split; split; exact hz; exact h.2 _ _; exact h.2 _ _⟩
set_option maxHeartbeats 4000000 in
set_option maxRecDepth 100000 in
theorem M_badAt {l : Launch} {G : GT} {h0 : Nat} {ad ln : Nat → Nat} {v : Nat → Int} {a : Nat → Nat → Int} {x y : Int} (hx : R32 x) (hy : R32 y) : Mm l G yX12_badAt cX12_badAt 3 (some .int) 0 [.int (iI x), .int (iI y)] h0 ad ln v a 0 0 (fun r v2 a2 => r = some (.int (iI (-1))) ∧ a = a2 ∧ ∃ x y : Int, R32 x ∧ R32 y ∧ v2 = va_up (va_up v 0 x) 1 y) := by
  refine Mm.mk (by decide) (Nat.le_of_ble_eq_true rfl) ?_
  intro p e s m args below meth c A C
  refine m_aload_n (j := 0) C dX12_badAt_0 rfl ?_
  refine m_iload_n (j := 1) C dX12_badAt_1 rfl ?_
  refine m_put (k := 0) (z := x) C dX12_badAt_2 w6_59 (by decide) rfl rfl rfl ?_
  refine m_aload_n (j := 0) C dX12_badAt_5 rfl ?_
  refine m_iload_n (j := 1) C dX12_badAt_6 rfl ?_
  refine m_bipush (z := 7) C dX12_badAt_7 (by decide) ?_
  refine m_icmp_eq (tgt := 18) C ⟨by omega, by omega⟩ ⟨by decide, by decide⟩ dX12_badAt_9 (by decide) (fun c1 => ?_) (fun c1 => ?_)
  · refine m_iload_n (j := 2) C dX12_badAt_18 rfl ?_
    refine m_goto (tgt := 23) C dX12_badAt_19 (by decide) ?_
    refine m_put (k := 1) (z := y) C dX12_badAt_23 w6_60 (by decide) rfl rfl rfl ?_
    refine m_iconst C dX12_badAt_26 ?_
    exact m_iret C dX12_badAt_27 rfl (Nat.le_of_ble_eq_true rfl) (Nat.le_of_ble_eq_true rfl) ⟨rfl, rfl, x, y, ⟨by omega, by omega⟩, ⟨by omega, by omega⟩, rfl⟩
  · refine m_iload_n (j := 1) C dX12_badAt_12 rfl ?_
    refine m_bipush (z := 9) C dX12_badAt_13 (by decide) ?_
    refine m_icmp_ne (tgt := 22) C ⟨by omega, by omega⟩ ⟨by decide, by decide⟩ dX12_badAt_15 (by decide) (fun c2 => ?_) (fun c2 => ?_)
    · refine m_iconst C dX12_badAt_22 ?_
      refine m_put (k := 1) (z := (-1)) C dX12_badAt_23 w6_60 (by decide) rfl rfl rfl ?_
      refine m_iconst C dX12_badAt_26 ?_
      exact m_iret C dX12_badAt_27 rfl (Nat.le_of_ble_eq_true rfl) (Nat.le_of_ble_eq_true rfl) ⟨rfl, rfl, x, (-1), ⟨by omega, by omega⟩, ⟨by decide, by decide⟩, rfl⟩
    · refine m_iload_n (j := 2) C dX12_badAt_18 rfl ?_
      refine m_goto (tgt := 23) C dX12_badAt_19 (by decide) ?_
      refine m_put (k := 1) (z := y) C dX12_badAt_23 w6_60 (by decide) rfl rfl rfl ?_
      refine m_iconst C dX12_badAt_26 ?_
      exact m_iret C dX12_badAt_27 rfl (Nat.le_of_ble_eq_true rfl) (Nat.le_of_ble_eq_true rfl) ⟨rfl, rfl, x, y, ⟨by omega, by omega⟩, ⟨by omega, by omega⟩, rfl⟩
set_option maxHeartbeats 4000000 in
set_option maxRecDepth 100000 in
theorem M_notSet {l : Launch} {G : GT} {h0 : Nat} {ad ln : Nat → Nat} {v : Nat → Int} {a : Nat → Nat → Int} (hR : RG v a) : Mm l G yX12_notSet cX12_notSet 1 (some .int) 1 [] h0 ad ln v a 0 0 (fun r v2 a2 => a = a2 ∧ ∃ x y : Int, R32 x ∧ R32 y ∧ v2 = va_up (va_up v 0 x) 1 y) := by
  refine Mm.mk (by decide) (Nat.le_of_ble_eq_true rfl) ?_
  intro p e s m args below meth c A C
  refine m_aload_n (j := 0) C dX12_notSet_0 rfl ?_
  have rv28 := hR.1 28
  refine m_get (k := 28) C dX12_notSet_1 w6_87 (by decide) rfl ?_
  refine m_if_ge (tgt := 16) C ⟨by omega, by omega⟩ dX12_notSet_4 (by decide) (fun c1 => ?_) (fun c1 => ?_)
  · refine m_aload_n (j := 0) C dX12_notSet_16 rfl ?_
    refine m_bipush (z := 7) C dX12_notSet_17 (by decide) ?_
    refine m_aload_n (j := 0) C dX12_notSet_19 rfl ?_
    refine m_get (k := 28) C dX12_notSet_20 w6_87 (by decide) rfl ?_
    refine m_call (mc2 := 0) (ms2 := 0) (As := [.int (iI 7), .int (iI (v 28))]) (rest := []) C (M_badAt (x := 7) (y := v 28) ⟨by decide, by decide⟩ ⟨by omega, by omega⟩) dX12_notSet_23 kV_X12_240 rfl ck_13 rfl (Nat.le_of_ble_eq_true rfl) ⟨Nat.le_of_ble_eq_true rfl, Nat.le_of_ble_eq_true rfl⟩ ⟨Nat.le_of_ble_eq_true rfl, Nat.le_of_ble_eq_true rfl⟩ (fun rh1 vh1 ah1 h1 => ?_)
    obtain ⟨rfl, rfl, xh1, yh1, hxh1, hyh1, rfl⟩ := h1
    refine m_st (st2 := [.int (iI (-1))]) rfl ?_
    exact m_iret C dX12_notSet_26 rfl (Nat.le_of_ble_eq_true rfl) (Nat.le_of_ble_eq_true rfl) ⟨rfl, xh1, yh1, ⟨by omega, by omega⟩, ⟨by omega, by omega⟩, rfl⟩
  · refine m_aload_n (j := 0) C dX12_notSet_7 rfl ?_
    refine m_bipush (z := 6) C dX12_notSet_8 (by decide) ?_
    refine m_call (mc2 := 0) (ms2 := 0) (As := [.int (iI 6)]) (rest := []) C (M_bad (x := 6)) dX12_notSet_10 kV_X12_154 rfl ck_13 rfl (Nat.le_of_ble_eq_true rfl) ⟨Nat.le_of_ble_eq_true rfl, Nat.le_of_ble_eq_true rfl⟩ ⟨Nat.le_of_ble_eq_true rfl, Nat.le_of_ble_eq_true rfl⟩ (fun rh2 vh2 ah2 h2 => ?_)
    obtain ⟨rfl, rfl, rfl⟩ := h2
    refine m_st (st2 := [.int (iI (-1))]) rfl ?_
    refine m_goto (tgt := 26) C dX12_notSet_13 (by decide) ?_
    exact m_iret C dX12_notSet_26 rfl (Nat.le_of_ble_eq_true rfl) (Nat.le_of_ble_eq_true rfl) ⟨rfl, 6, (-1), ⟨by decide, by decide⟩, ⟨by decide, by decide⟩, rfl⟩
set_option maxHeartbeats 4000000 in
set_option maxRecDepth 100000 in
theorem M_lineFault {l : Launch} {G : GT} {h0 : Nat} {ad ln : Nat → Nat} {v : Nat → Int} {a : Nat → Nat → Int} {l0 : Int} (hR : RG v a) (hl : R32 l0) (hI : Iln v a) : Mm l G yX12_lineFault cX12_lineFault 2 (some .int) 1 [.int (iI l0)] h0 ad ln v a 0 0 (fun r v2 a2 => ∃ f : Int, r = some (.int (iI f)) ∧ ((f = 2 ∧ ¬ (0 ≤ l0 ∧ l0 < v 36)) ∨ (f = 1 ∧ 0 ≤ l0 ∧ l0 < v 36 ∧ a 34 l0.toNat < 0) ∨ (f = 0 ∧ 0 ≤ l0 ∧ l0 < v 36 ∧ 0 ≤ a 34 l0.toNat)) ∧ v = v2 ∧ a = a2) := by
  refine Mm.mk (by decide) (Nat.le_of_ble_eq_true rfl) ?_
  intro p e s m args below meth c A C
  have hI1 := hI.1
  refine m_iload_n (j := 1) C dX12_lineFault_0 rfl ?_
  refine m_iconst C dX12_lineFault_1 ?_
  refine m_aload_n (j := 0) C dX12_lineFault_2 rfl ?_
  have rv36 := hR.1 36
  refine m_get (k := 36) C dX12_lineFault_3 w6_95 (by decide) rfl ?_
  refine m_iconst C dX12_lineFault_6 ?_
  refine m_isub C dX12_lineFault_7 ?_
  refine m_callS (As := [.int (iI l0), .int (iI 0), .int (iI ((v 36) - 1))]) (rest := []) C (fun L E => s_isIn (iI l0) (iI 0) (iI ((v 36) - 1))) dX12_lineFault_8 kS_X12_174 rfl rfl (Nat.le_of_ble_eq_true rfl) ⟨Nat.le_of_ble_eq_true rfl, Nat.le_of_ble_eq_true rfl⟩ ⟨Nat.le_of_ble_eq_true rfl, Nat.le_of_ble_eq_true rfl⟩ ?_
  rcases inn_c (x := l0) (lo := 0) (hi := (v 36) - 1) ⟨by omega, by omega⟩ ⟨by decide, by decide⟩ ⟨by omega, by omega⟩ with ⟨h1a, h1b, h1e⟩ | ⟨h1a, h1e⟩
  · refine m_st (st2 := [.int (iI 1)]) (by rw [h1e]) ?_
    refine m_if_ne (tgt := 18) C ⟨by decide, by decide⟩ dX12_lineFault_11 (by decide) (fun _ => ?_) (fun z => absurd z (by omega))
    refine m_aload_n (j := 0) C dX12_lineFault_18 rfl ?_
    refine m_geta (k := 34) C dX12_lineFault_19 w6_93 (by decide) rfl ?_
    refine m_iload_n (j := 1) C dX12_lineFault_22 rfl ?_
    refine m_ald (k := 34) C dX12_lineFault_23 rfl rfl (by decide) (by omega) (by show _ < ((_ : Nat) : Int); simp only [mlen]; omega) (by decide) ?_
    have ra1 := hR.2 34 (l0.toNat)
    refine m_if_ge (tgt := 31) C ⟨by omega, by omega⟩ dX12_lineFault_24 (by decide) (fun c1 => ?_) (fun c1 => ?_)
    · refine m_iconst C dX12_lineFault_31 ?_
      exact m_iret C dX12_lineFault_32 rfl (Nat.le_of_ble_eq_true rfl) (Nat.le_of_ble_eq_true rfl) ⟨0, rfl, (by omega), rfl, rfl⟩
    · refine m_iconst C dX12_lineFault_27 ?_
      refine m_goto (tgt := 32) C dX12_lineFault_28 (by decide) ?_
      exact m_iret C dX12_lineFault_32 rfl (Nat.le_of_ble_eq_true rfl) (Nat.le_of_ble_eq_true rfl) ⟨1, rfl, (by omega), rfl, rfl⟩
  · refine m_st (st2 := [.int (iI 0)]) (by rw [h1e]) ?_
    refine m_if_ne (tgt := 18) C ⟨by decide, by decide⟩ dX12_lineFault_11 (by decide) (fun z => absurd z (by omega)) (fun _ => ?_)
    refine m_iconst C dX12_lineFault_14 ?_
    refine m_goto (tgt := 32) C dX12_lineFault_15 (by decide) ?_
    exact m_iret C dX12_lineFault_32 rfl (Nat.le_of_ble_eq_true rfl) (Nat.le_of_ble_eq_true rfl) ⟨2, rfl, (by omega), rfl, rfl⟩
set_option maxHeartbeats 4000000 in
set_option maxRecDepth 100000 in
theorem M_length {l : Launch} {G : GT} {h0 : Nat} {ad ln : Nat → Nat} {v : Nat → Int} {a : Nat → Nat → Int} {l0 : Int} (hR : RG v a) (hl : R32 l0) (hI : Iln v a) : Mm l G yX12_length cX12_length 2 (some .int) 2 [.int (iI l0)] h0 ad ln v a 0 0 (fun r v2 a2 => a = a2 ∧ ∃ x y : Int, R32 x ∧ R32 y ∧ v2 = va_up (va_up v 0 x) 1 y) := by
  refine Mm.mk (by decide) (Nat.le_of_ble_eq_true rfl) ?_
  intro p e s m args below meth c A C
  have hI1 := hI.1
  refine m_aload_n (j := 0) C dX12_length_0 rfl ?_
  refine m_iload_n (j := 1) C dX12_length_1 rfl ?_
  refine m_call (mc2 := 0) (ms2 := 0) (As := [.int (iI l0)]) (rest := []) C (M_lineFault (l0 := l0) hR ⟨by omega, by omega⟩ hI) dX12_length_2 kV_X12_294 rfl ck_13 rfl (Nat.le_of_ble_eq_true rfl) ⟨Nat.le_of_ble_eq_true rfl, Nat.le_of_ble_eq_true rfl⟩ ⟨Nat.le_of_ble_eq_true rfl, Nat.le_of_ble_eq_true rfl⟩ (fun rh1 vh1 ah1 h1 => ?_)
  obtain ⟨f1, rfl, hf1, rfl, rfl⟩ := h1
  refine m_st (st2 := [.int (iI f1)]) rfl ?_
  refine m_if_le (tgt := 20) C ⟨by omega, by omega⟩ dX12_length_5 (by decide) (fun c1 => ?_) (fun c1 => ?_)
  · refine m_aload_n (j := 0) C dX12_length_20 rfl ?_
    refine m_aload_n (j := 0) C dX12_length_21 rfl ?_
    refine m_geta (k := 34) C dX12_length_22 w6_93 (by decide) rfl ?_
    refine m_iload_n (j := 1) C dX12_length_25 rfl ?_
    refine m_ald (k := 34) C dX12_length_26 rfl rfl (by decide) (by omega) (by show _ < ((_ : Nat) : Int); simp only [mlen]; omega) (by decide) ?_
    have ra1 := hR.2 34 (l0.toNat)
    refine m_call (mc2 := 0) (ms2 := 0) (As := [.int (iI (a 34 l0.toNat))]) (rest := []) C (M_fine (x := a 34 l0.toNat)) dX12_length_27 kV_X12_158 rfl ck_13 rfl (Nat.le_of_ble_eq_true rfl) ⟨Nat.le_of_ble_eq_true rfl, Nat.le_of_ble_eq_true rfl⟩ ⟨Nat.le_of_ble_eq_true rfl, Nat.le_of_ble_eq_true rfl⟩ (fun rh2 vh2 ah2 h2 => ?_)
    obtain ⟨rfl, rfl, rfl⟩ := h2
    refine m_st (st2 := [.int (iI (a 34 l0.toNat))]) rfl ?_
    exact m_iret C dX12_length_30 rfl (Nat.le_of_ble_eq_true rfl) (Nat.le_of_ble_eq_true rfl) ⟨rfl, 0, (-1), ⟨by decide, by decide⟩, ⟨by decide, by decide⟩, rfl⟩
  · refine m_aload_n (j := 0) C dX12_length_8 rfl ?_
    refine m_aload_n (j := 0) C dX12_length_9 rfl ?_
    refine m_iload_n (j := 1) C dX12_length_10 rfl ?_
    refine m_call (mc2 := 0) (ms2 := 0) (As := [.int (iI l0)]) (rest := [.ref h0]) C (M_lineFault (l0 := l0) hR ⟨by omega, by omega⟩ hI) dX12_length_11 kV_X12_294 rfl ck_13 rfl (Nat.le_of_ble_eq_true rfl) ⟨Nat.le_of_ble_eq_true rfl, Nat.le_of_ble_eq_true rfl⟩ ⟨Nat.le_of_ble_eq_true rfl, Nat.le_of_ble_eq_true rfl⟩ (fun rh3 vh3 ah3 h3 => ?_)
    obtain ⟨f2, rfl, hf2, rfl, rfl⟩ := h3
    refine m_st (st2 := [.int (iI f2), .ref h0]) rfl ?_
    refine m_call (mc2 := 0) (ms2 := 0) (As := [.int (iI f2)]) (rest := []) C (M_bad (x := f2)) dX12_length_14 kV_X12_154 rfl ck_13 rfl (Nat.le_of_ble_eq_true rfl) ⟨Nat.le_of_ble_eq_true rfl, Nat.le_of_ble_eq_true rfl⟩ ⟨Nat.le_of_ble_eq_true rfl, Nat.le_of_ble_eq_true rfl⟩ (fun rh4 vh4 ah4 h4 => ?_)
    obtain ⟨rfl, rfl, rfl⟩ := h4
    refine m_st (st2 := [.int (iI (-1))]) rfl ?_
    refine m_goto (tgt := 30) C dX12_length_17 (by decide) ?_
    exact m_iret C dX12_length_30 rfl (Nat.le_of_ble_eq_true rfl) (Nat.le_of_ble_eq_true rfl) ⟨rfl, f2, (-1), ⟨by omega, by omega⟩, ⟨by decide, by decide⟩, rfl⟩
set_option maxHeartbeats 4000000 in
set_option maxRecDepth 100000 in
theorem M_cell {l : Launch} {G : GT} {h0 : Nat} {ad ln : Nat → Nat} {v : Nat → Int} {a : Nat → Nat → Int} {l0 i : Int} (hR : RG v a) (hl : R32 l0) (hi : R32 i) (hI : Iln v a) : Mm l G yX12_cell cX12_cell 3 (some .int) 2 [.int (iI l0), .int (iI i)] h0 ad ln v a 0 0 (fun r v2 a2 => a = a2 ∧ ∃ x y : Int, R32 x ∧ R32 y ∧ v2 = va_up (va_up v 0 x) 1 y) := by
  refine Mm.mk (by decide) (Nat.le_of_ble_eq_true rfl) ?_
  intro p e s m args below meth c A C
  have hI1 := hI.1
  have hI2 := hI.2 l0.toNat
  refine m_aload_n (j := 0) C dX12_cell_0 rfl ?_
  refine m_iload_n (j := 1) C dX12_cell_1 rfl ?_
  refine m_call (mc2 := 0) (ms2 := 0) (As := [.int (iI l0)]) (rest := []) C (M_lineFault (l0 := l0) hR ⟨by omega, by omega⟩ hI) dX12_cell_2 kV_X12_294 rfl ck_13 rfl (Nat.le_of_ble_eq_true rfl) ⟨Nat.le_of_ble_eq_true rfl, Nat.le_of_ble_eq_true rfl⟩ ⟨Nat.le_of_ble_eq_true rfl, Nat.le_of_ble_eq_true rfl⟩ (fun rh1 vh1 ah1 h1 => ?_)
  obtain ⟨f1, rfl, hf1, rfl, rfl⟩ := h1
  refine m_st (st2 := [.int (iI f1)]) rfl ?_
  refine m_if_le (tgt := 18) C ⟨by omega, by omega⟩ dX12_cell_5 (by decide) (fun c1 => ?_) (fun c1 => ?_)
  · refine m_iload_n (j := 2) C dX12_cell_18 rfl ?_
    refine m_iconst C dX12_cell_19 ?_
    refine m_aload_n (j := 0) C dX12_cell_20 rfl ?_
    refine m_geta (k := 34) C dX12_cell_21 w6_93 (by decide) rfl ?_
    refine m_iload_n (j := 1) C dX12_cell_24 rfl ?_
    refine m_ald (k := 34) C dX12_cell_25 rfl rfl (by decide) (by omega) (by show _ < ((_ : Nat) : Int); simp only [mlen]; omega) (by decide) ?_
    have ra1 := hR.2 34 (l0.toNat)
    refine m_iconst C dX12_cell_26 ?_
    refine m_isub C dX12_cell_27 ?_
    refine m_callS (As := [.int (iI i), .int (iI 0), .int (iI ((a 34 l0.toNat) - 1))]) (rest := []) C (fun L E => s_isIn (iI i) (iI 0) (iI ((a 34 l0.toNat) - 1))) dX12_cell_28 kS_X12_174 rfl rfl (Nat.le_of_ble_eq_true rfl) ⟨Nat.le_of_ble_eq_true rfl, Nat.le_of_ble_eq_true rfl⟩ ⟨Nat.le_of_ble_eq_true rfl, Nat.le_of_ble_eq_true rfl⟩ ?_
    rcases inn_c (x := i) (lo := 0) (hi := (a 34 l0.toNat) - 1) ⟨by omega, by omega⟩ ⟨by decide, by decide⟩ ⟨by omega, by omega⟩ with ⟨h2a, h2b, h2e⟩ | ⟨h2a, h2e⟩
    · refine m_st (st2 := [.int (iI 1)]) (by rw [h2e]) ?_
      refine m_if_eq (tgt := 53) C ⟨by decide, by decide⟩ dX12_cell_31 (by decide) (fun z => absurd z (by omega)) (fun _ => ?_)
      refine m_aload_n (j := 0) C dX12_cell_34 rfl ?_
      refine m_aload_n (j := 0) C dX12_cell_35 rfl ?_
      refine m_geta (k := 35) C dX12_cell_36 w6_94 (by decide) rfl ?_
      refine m_sipush (z := 200) C dX12_cell_39 (by decide) ?_
      refine m_iload_n (j := 1) C dX12_cell_42 rfl ?_
      refine m_imul C dX12_cell_43 ?_
      refine m_iload_n (j := 2) C dX12_cell_44 rfl ?_
      refine m_iadd C dX12_cell_45 ?_
      refine m_ald (k := 35) C dX12_cell_46 rfl rfl (by decide) (by omega) (by show _ < ((_ : Nat) : Int); simp only [mlen]; omega) (by decide) ?_
      have ra2 := hR.2 35 (((200 * l0) + i).toNat)
      refine m_call (mc2 := 0) (ms2 := 0) (As := [.int (iI (a 35 ((200 * l0) + i).toNat))]) (rest := []) C (M_fine (x := a 35 ((200 * l0) + i).toNat)) dX12_cell_47 kV_X12_158 rfl ck_13 rfl (Nat.le_of_ble_eq_true rfl) ⟨Nat.le_of_ble_eq_true rfl, Nat.le_of_ble_eq_true rfl⟩ ⟨Nat.le_of_ble_eq_true rfl, Nat.le_of_ble_eq_true rfl⟩ (fun rh3 vh3 ah3 h3 => ?_)
      obtain ⟨rfl, rfl, rfl⟩ := h3
      refine m_st (st2 := [.int (iI (a 35 ((200 * l0) + i).toNat))]) rfl ?_
      refine m_goto (tgt := 58) C dX12_cell_50 (by decide) ?_
      exact m_iret C dX12_cell_58 rfl (Nat.le_of_ble_eq_true rfl) (Nat.le_of_ble_eq_true rfl) ⟨rfl, 0, (-1), ⟨by decide, by decide⟩, ⟨by decide, by decide⟩, rfl⟩
    · refine m_st (st2 := [.int (iI 0)]) (by rw [h2e]) ?_
      refine m_if_eq (tgt := 53) C ⟨by decide, by decide⟩ dX12_cell_31 (by decide) (fun _ => ?_) (fun z => absurd z (by omega))
      refine m_aload_n (j := 0) C dX12_cell_53 rfl ?_
      refine m_iconst C dX12_cell_54 ?_
      refine m_call (mc2 := 0) (ms2 := 0) (As := [.int (iI 2)]) (rest := []) C (M_bad (x := 2)) dX12_cell_55 kV_X12_154 rfl ck_13 rfl (Nat.le_of_ble_eq_true rfl) ⟨Nat.le_of_ble_eq_true rfl, Nat.le_of_ble_eq_true rfl⟩ ⟨Nat.le_of_ble_eq_true rfl, Nat.le_of_ble_eq_true rfl⟩ (fun rh4 vh4 ah4 h4 => ?_)
      obtain ⟨rfl, rfl, rfl⟩ := h4
      refine m_st (st2 := [.int (iI (-1))]) rfl ?_
      exact m_iret C dX12_cell_58 rfl (Nat.le_of_ble_eq_true rfl) (Nat.le_of_ble_eq_true rfl) ⟨rfl, 2, (-1), ⟨by decide, by decide⟩, ⟨by decide, by decide⟩, rfl⟩
  · refine m_aload_n (j := 0) C dX12_cell_8 rfl ?_
    refine m_aload_n (j := 0) C dX12_cell_9 rfl ?_
    refine m_iload_n (j := 1) C dX12_cell_10 rfl ?_
    refine m_call (mc2 := 0) (ms2 := 0) (As := [.int (iI l0)]) (rest := [.ref h0]) C (M_lineFault (l0 := l0) hR ⟨by omega, by omega⟩ hI) dX12_cell_11 kV_X12_294 rfl ck_13 rfl (Nat.le_of_ble_eq_true rfl) ⟨Nat.le_of_ble_eq_true rfl, Nat.le_of_ble_eq_true rfl⟩ ⟨Nat.le_of_ble_eq_true rfl, Nat.le_of_ble_eq_true rfl⟩ (fun rh5 vh5 ah5 h5 => ?_)
    obtain ⟨f2, rfl, hf2, rfl, rfl⟩ := h5
    refine m_st (st2 := [.int (iI f2), .ref h0]) rfl ?_
    refine m_call (mc2 := 0) (ms2 := 0) (As := [.int (iI f2)]) (rest := []) C (M_bad (x := f2)) dX12_cell_14 kV_X12_154 rfl ck_13 rfl (Nat.le_of_ble_eq_true rfl) ⟨Nat.le_of_ble_eq_true rfl, Nat.le_of_ble_eq_true rfl⟩ ⟨Nat.le_of_ble_eq_true rfl, Nat.le_of_ble_eq_true rfl⟩ (fun rh6 vh6 ah6 h6 => ?_)
    obtain ⟨rfl, rfl, rfl⟩ := h6
    refine m_st (st2 := [.int (iI (-1))]) rfl ?_
    exact m_iret C dX12_cell_17 rfl (Nat.le_of_ble_eq_true rfl) (Nat.le_of_ble_eq_true rfl) ⟨rfl, f2, (-1), ⟨by omega, by omega⟩, ⟨by decide, by decide⟩, rfl⟩
set_option maxHeartbeats 4000000 in
set_option maxRecDepth 100000 in
theorem M_lose {l : Launch} {G : GT} {h0 : Nat} {ad ln : Nat → Nat} {v : Nat → Int} {a : Nat → Nat → Int} {l0 : Int} (hR : RG v a) (hl : R32 l0) (hI : Iln v a) : Mm l G yX12_lose cX12_lose 2 (some .int) 2 [.int (iI l0)] h0 ad ln v a 0 0 (fun r v2 a2 => (∃ x y : Int, R32 x ∧ R32 y ∧ v2 = va_up (va_up v 0 x) 1 y) ∧ (a = a2 ∨ ∃ i, a2 = up2 a 34 i (-1))) := by
  refine Mm.mk (by decide) (Nat.le_of_ble_eq_true rfl) ?_
  intro p e s m args below meth c A C
  have hI1 := hI.1
  refine m_iload_n (j := 1) C dX12_lose_0 rfl ?_
  refine m_iconst C dX12_lose_1 ?_
  refine m_aload_n (j := 0) C dX12_lose_2 rfl ?_
  have rv36 := hR.1 36
  refine m_get (k := 36) C dX12_lose_3 w6_95 (by decide) rfl ?_
  refine m_iconst C dX12_lose_6 ?_
  refine m_isub C dX12_lose_7 ?_
  refine m_callS (As := [.int (iI l0), .int (iI 0), .int (iI ((v 36) - 1))]) (rest := []) C (fun L E => s_isIn (iI l0) (iI 0) (iI ((v 36) - 1))) dX12_lose_8 kS_X12_174 rfl rfl (Nat.le_of_ble_eq_true rfl) ⟨Nat.le_of_ble_eq_true rfl, Nat.le_of_ble_eq_true rfl⟩ ⟨Nat.le_of_ble_eq_true rfl, Nat.le_of_ble_eq_true rfl⟩ ?_
  rcases inn_c (x := l0) (lo := 0) (hi := (v 36) - 1) ⟨by omega, by omega⟩ ⟨by decide, by decide⟩ ⟨by omega, by omega⟩ with ⟨h1a, h1b, h1e⟩ | ⟨h1a, h1e⟩
  · refine m_st (st2 := [.int (iI 1)]) (by rw [h1e]) ?_
    refine m_if_ne (tgt := 20) C ⟨by decide, by decide⟩ dX12_lose_11 (by decide) (fun _ => ?_) (fun z => absurd z (by omega))
    refine m_aload_n (j := 0) C dX12_lose_20 rfl ?_
    refine m_geta (k := 34) C dX12_lose_21 w6_93 (by decide) rfl ?_
    refine m_iload_n (j := 1) C dX12_lose_24 rfl ?_
    refine m_iconst C dX12_lose_25 ?_
    refine m_ast (k := 34) C dX12_lose_26 rfl rfl (by decide) (by omega) (by show _ < ((_ : Nat) : Int); simp only [mlen]; omega) (by decide) ?_
    refine m_aload_n (j := 0) C dX12_lose_27 rfl ?_
    refine m_iconst C dX12_lose_28 ?_
    refine m_call (mc2 := 0) (ms2 := 0) (As := [.int (iI 1)]) (rest := []) C (M_fine (x := 1)) dX12_lose_29 kV_X12_158 rfl ck_13 rfl (Nat.le_of_ble_eq_true rfl) ⟨Nat.le_of_ble_eq_true rfl, Nat.le_of_ble_eq_true rfl⟩ ⟨Nat.le_of_ble_eq_true rfl, Nat.le_of_ble_eq_true rfl⟩ (fun rh2 vh2 ah2 h2 => ?_)
    obtain ⟨rfl, rfl, rfl⟩ := h2
    refine m_st (st2 := [.int (iI 1)]) rfl ?_
    exact m_iret C dX12_lose_32 rfl (Nat.le_of_ble_eq_true rfl) (Nat.le_of_ble_eq_true rfl) ⟨⟨0, (-1), ⟨by decide, by decide⟩, ⟨by decide, by decide⟩, rfl⟩, Or.inr ⟨_, rfl⟩⟩
  · refine m_st (st2 := [.int (iI 0)]) (by rw [h1e]) ?_
    refine m_if_ne (tgt := 20) C ⟨by decide, by decide⟩ dX12_lose_11 (by decide) (fun z => absurd z (by omega)) (fun _ => ?_)
    refine m_aload_n (j := 0) C dX12_lose_14 rfl ?_
    refine m_iconst C dX12_lose_15 ?_
    refine m_call (mc2 := 0) (ms2 := 0) (As := [.int (iI 2)]) (rest := []) C (M_bad (x := 2)) dX12_lose_16 kV_X12_154 rfl ck_13 rfl (Nat.le_of_ble_eq_true rfl) ⟨Nat.le_of_ble_eq_true rfl, Nat.le_of_ble_eq_true rfl⟩ ⟨Nat.le_of_ble_eq_true rfl, Nat.le_of_ble_eq_true rfl⟩ (fun rh3 vh3 ah3 h3 => ?_)
    obtain ⟨rfl, rfl, rfl⟩ := h3
    refine m_st (st2 := [.int (iI (-1))]) rfl ?_
    exact m_iret C dX12_lose_19 rfl (Nat.le_of_ble_eq_true rfl) (Nat.le_of_ble_eq_true rfl) ⟨⟨2, (-1), ⟨by decide, by decide⟩, ⟨by decide, by decide⟩, rfl⟩, Or.inl rfl⟩
set_option maxHeartbeats 4000000 in
set_option maxRecDepth 100000 in
theorem M_letter {l : Launch} {G : GT} {h0 : Nat} {ad ln : Nat → Nat} {v : Nat → Int} {a : Nat → Nat → Int} {i : Int} (hR : RG v a) (hi : R32 i) (hI : Iou v) : Mm l G yX12_letter cX12_letter 2 (some .int) 2 [.int (iI i)] h0 ad ln v a 0 0 (fun r v2 a2 => a = a2 ∧ ∃ x y : Int, R32 x ∧ R32 y ∧ v2 = va_up (va_up v 0 x) 1 y) := by
  refine Mm.mk (by decide) (Nat.le_of_ble_eq_true rfl) ?_
  intro p e s m args below meth c A C
  have hI1 := hI
  unfold Iou at hI1
  refine m_iload_n (j := 1) C dX12_letter_0 rfl ?_
  refine m_iconst C dX12_letter_1 ?_
  refine m_aload_n (j := 0) C dX12_letter_2 rfl ?_
  have rv52 := hR.1 52
  refine m_get (k := 52) C dX12_letter_3 w6_111 (by decide) rfl ?_
  refine m_iconst C dX12_letter_6 ?_
  refine m_isub C dX12_letter_7 ?_
  refine m_callS (As := [.int (iI i), .int (iI 0), .int (iI ((v 52) - 1))]) (rest := []) C (fun L E => s_isIn (iI i) (iI 0) (iI ((v 52) - 1))) dX12_letter_8 kS_X12_174 rfl rfl (Nat.le_of_ble_eq_true rfl) ⟨Nat.le_of_ble_eq_true rfl, Nat.le_of_ble_eq_true rfl⟩ ⟨Nat.le_of_ble_eq_true rfl, Nat.le_of_ble_eq_true rfl⟩ ?_
  rcases inn_c (x := i) (lo := 0) (hi := (v 52) - 1) ⟨by omega, by omega⟩ ⟨by decide, by decide⟩ ⟨by omega, by omega⟩ with ⟨h1a, h1b, h1e⟩ | ⟨h1a, h1e⟩
  · refine m_st (st2 := [.int (iI 1)]) (by rw [h1e]) ?_
    refine m_if_eq (tgt := 27) C ⟨by decide, by decide⟩ dX12_letter_11 (by decide) (fun z => absurd z (by omega)) (fun _ => ?_)
    refine m_aload_n (j := 0) C dX12_letter_14 rfl ?_
    refine m_aload_n (j := 0) C dX12_letter_15 rfl ?_
    refine m_geta (k := 51) C dX12_letter_16 w6_110 (by decide) rfl ?_
    refine m_iload_n (j := 1) C dX12_letter_19 rfl ?_
    refine m_ald (k := 51) C dX12_letter_20 rfl rfl (by decide) (by omega) (by show _ < ((_ : Nat) : Int); simp only [mlen]; omega) (by decide) ?_
    have ra1 := hR.2 51 (i.toNat)
    refine m_call (mc2 := 0) (ms2 := 0) (As := [.int (iI (a 51 i.toNat))]) (rest := []) C (M_fine (x := a 51 i.toNat)) dX12_letter_21 kV_X12_158 rfl ck_13 rfl (Nat.le_of_ble_eq_true rfl) ⟨Nat.le_of_ble_eq_true rfl, Nat.le_of_ble_eq_true rfl⟩ ⟨Nat.le_of_ble_eq_true rfl, Nat.le_of_ble_eq_true rfl⟩ (fun rh2 vh2 ah2 h2 => ?_)
    obtain ⟨rfl, rfl, rfl⟩ := h2
    refine m_st (st2 := [.int (iI (a 51 i.toNat))]) rfl ?_
    refine m_goto (tgt := 32) C dX12_letter_24 (by decide) ?_
    exact m_iret C dX12_letter_32 rfl (Nat.le_of_ble_eq_true rfl) (Nat.le_of_ble_eq_true rfl) ⟨rfl, 0, (-1), ⟨by decide, by decide⟩, ⟨by decide, by decide⟩, rfl⟩
  · refine m_st (st2 := [.int (iI 0)]) (by rw [h1e]) ?_
    refine m_if_eq (tgt := 27) C ⟨by decide, by decide⟩ dX12_letter_11 (by decide) (fun _ => ?_) (fun z => absurd z (by omega))
    refine m_aload_n (j := 0) C dX12_letter_27 rfl ?_
    refine m_iconst C dX12_letter_28 ?_
    refine m_call (mc2 := 0) (ms2 := 0) (As := [.int (iI 2)]) (rest := []) C (M_bad (x := 2)) dX12_letter_29 kV_X12_154 rfl ck_13 rfl (Nat.le_of_ble_eq_true rfl) ⟨Nat.le_of_ble_eq_true rfl, Nat.le_of_ble_eq_true rfl⟩ ⟨Nat.le_of_ble_eq_true rfl, Nat.le_of_ble_eq_true rfl⟩ (fun rh3 vh3 ah3 h3 => ?_)
    obtain ⟨rfl, rfl, rfl⟩ := h3
    refine m_st (st2 := [.int (iI (-1))]) rfl ?_
    exact m_iret C dX12_letter_32 rfl (Nat.le_of_ble_eq_true rfl) (Nat.le_of_ble_eq_true rfl) ⟨rfl, 2, (-1), ⟨by decide, by decide⟩, ⟨by decide, by decide⟩, rfl⟩
set_option maxHeartbeats 4000000 in
set_option maxRecDepth 100000 in
theorem M_reading {l : Launch} {G : GT} {h0 : Nat} {ad ln : Nat → Nat} {v : Nat → Int} {a : Nat → Nat → Int} {k i : Int} (hR : RG v a) (hk : R32 k) (hi : R32 i) (hI : Ikp v a) : Mm l G yX12_reading cX12_reading 3 (some .int) 2 [.int (iI k), .int (iI i)] h0 ad ln v a 0 0 (fun r v2 a2 => a = a2 ∧ ∃ x y : Int, R32 x ∧ R32 y ∧ v2 = va_up (va_up v 0 x) 1 y) := by
  refine Mm.mk (by decide) (Nat.le_of_ble_eq_true rfl) ?_
  intro p e s m args below meth c A C
  have hI1 := hI.1
  have hI2 := hI.2 k.toNat
  refine m_iload_n (j := 1) C dX12_reading_0 rfl ?_
  refine m_iconst C dX12_reading_1 ?_
  refine m_aload_n (j := 0) C dX12_reading_2 rfl ?_
  have rv60 := hR.1 60
  refine m_get (k := 60) C dX12_reading_3 w6_119 (by decide) rfl ?_
  refine m_iconst C dX12_reading_6 ?_
  refine m_isub C dX12_reading_7 ?_
  refine m_callS (As := [.int (iI k), .int (iI 0), .int (iI ((v 60) - 1))]) (rest := []) C (fun L E => s_isIn (iI k) (iI 0) (iI ((v 60) - 1))) dX12_reading_8 kS_X12_174 rfl rfl (Nat.le_of_ble_eq_true rfl) ⟨Nat.le_of_ble_eq_true rfl, Nat.le_of_ble_eq_true rfl⟩ ⟨Nat.le_of_ble_eq_true rfl, Nat.le_of_ble_eq_true rfl⟩ ?_
  rcases inn_c (x := k) (lo := 0) (hi := (v 60) - 1) ⟨by omega, by omega⟩ ⟨by decide, by decide⟩ ⟨by omega, by omega⟩ with ⟨h1a, h1b, h1e⟩ | ⟨h1a, h1e⟩
  · refine m_st (st2 := [.int (iI 1)]) (by rw [h1e]) ?_
    refine m_if_eq (tgt := 49) C ⟨by decide, by decide⟩ dX12_reading_11 (by decide) (fun z => absurd z (by omega)) (fun _ => ?_)
    refine m_iload_n (j := 2) C dX12_reading_14 rfl ?_
    refine m_iconst C dX12_reading_15 ?_
    refine m_aload_n (j := 0) C dX12_reading_16 rfl ?_
    refine m_geta (k := 59) C dX12_reading_17 w6_118 (by decide) rfl ?_
    refine m_iload_n (j := 1) C dX12_reading_20 rfl ?_
    refine m_ald (k := 59) C dX12_reading_21 rfl rfl (by decide) (by omega) (by show _ < ((_ : Nat) : Int); simp only [mlen]; omega) (by decide) ?_
    have ra1 := hR.2 59 (k.toNat)
    refine m_iconst C dX12_reading_22 ?_
    refine m_isub C dX12_reading_23 ?_
    refine m_callS (As := [.int (iI i), .int (iI 0), .int (iI ((a 59 k.toNat) - 1))]) (rest := []) C (fun L E => s_isIn (iI i) (iI 0) (iI ((a 59 k.toNat) - 1))) dX12_reading_24 kS_X12_174 rfl rfl (Nat.le_of_ble_eq_true rfl) ⟨Nat.le_of_ble_eq_true rfl, Nat.le_of_ble_eq_true rfl⟩ ⟨Nat.le_of_ble_eq_true rfl, Nat.le_of_ble_eq_true rfl⟩ ?_
    rcases inn_c (x := i) (lo := 0) (hi := (a 59 k.toNat) - 1) ⟨by omega, by omega⟩ ⟨by decide, by decide⟩ ⟨by omega, by omega⟩ with ⟨h2a, h2b, h2e⟩ | ⟨h2a, h2e⟩
    · refine m_st (st2 := [.int (iI 1)]) (by rw [h2e]) ?_
      refine m_if_eq (tgt := 49) C ⟨by decide, by decide⟩ dX12_reading_27 (by decide) (fun z => absurd z (by omega)) (fun _ => ?_)
      refine m_aload_n (j := 0) C dX12_reading_30 rfl ?_
      refine m_aload_n (j := 0) C dX12_reading_31 rfl ?_
      refine m_geta (k := 58) C dX12_reading_32 w6_117 (by decide) rfl ?_
      refine m_sipush (z := 808) C dX12_reading_35 (by decide) ?_
      refine m_iload_n (j := 1) C dX12_reading_38 rfl ?_
      refine m_imul C dX12_reading_39 ?_
      refine m_iload_n (j := 2) C dX12_reading_40 rfl ?_
      refine m_iadd C dX12_reading_41 ?_
      refine m_ald (k := 58) C dX12_reading_42 rfl rfl (by decide) (by omega) (by show _ < ((_ : Nat) : Int); simp only [mlen]; omega) (by decide) ?_
      have ra2 := hR.2 58 (((808 * k) + i).toNat)
      refine m_call (mc2 := 0) (ms2 := 0) (As := [.int (iI (a 58 ((808 * k) + i).toNat))]) (rest := []) C (M_fine (x := a 58 ((808 * k) + i).toNat)) dX12_reading_43 kV_X12_158 rfl ck_13 rfl (Nat.le_of_ble_eq_true rfl) ⟨Nat.le_of_ble_eq_true rfl, Nat.le_of_ble_eq_true rfl⟩ ⟨Nat.le_of_ble_eq_true rfl, Nat.le_of_ble_eq_true rfl⟩ (fun rh3 vh3 ah3 h3 => ?_)
      obtain ⟨rfl, rfl, rfl⟩ := h3
      refine m_st (st2 := [.int (iI (a 58 ((808 * k) + i).toNat))]) rfl ?_
      refine m_goto (tgt := 54) C dX12_reading_46 (by decide) ?_
      exact m_iret C dX12_reading_54 rfl (Nat.le_of_ble_eq_true rfl) (Nat.le_of_ble_eq_true rfl) ⟨rfl, 0, (-1), ⟨by decide, by decide⟩, ⟨by decide, by decide⟩, rfl⟩
    · refine m_st (st2 := [.int (iI 0)]) (by rw [h2e]) ?_
      refine m_if_eq (tgt := 49) C ⟨by decide, by decide⟩ dX12_reading_27 (by decide) (fun _ => ?_) (fun z => absurd z (by omega))
      refine m_aload_n (j := 0) C dX12_reading_49 rfl ?_
      refine m_iconst C dX12_reading_50 ?_
      refine m_call (mc2 := 0) (ms2 := 0) (As := [.int (iI 2)]) (rest := []) C (M_bad (x := 2)) dX12_reading_51 kV_X12_154 rfl ck_13 rfl (Nat.le_of_ble_eq_true rfl) ⟨Nat.le_of_ble_eq_true rfl, Nat.le_of_ble_eq_true rfl⟩ ⟨Nat.le_of_ble_eq_true rfl, Nat.le_of_ble_eq_true rfl⟩ (fun rh4 vh4 ah4 h4 => ?_)
      obtain ⟨rfl, rfl, rfl⟩ := h4
      refine m_st (st2 := [.int (iI (-1))]) rfl ?_
      exact m_iret C dX12_reading_54 rfl (Nat.le_of_ble_eq_true rfl) (Nat.le_of_ble_eq_true rfl) ⟨rfl, 2, (-1), ⟨by decide, by decide⟩, ⟨by decide, by decide⟩, rfl⟩
  · refine m_st (st2 := [.int (iI 0)]) (by rw [h1e]) ?_
    refine m_if_eq (tgt := 49) C ⟨by decide, by decide⟩ dX12_reading_11 (by decide) (fun _ => ?_) (fun z => absurd z (by omega))
    refine m_aload_n (j := 0) C dX12_reading_49 rfl ?_
    refine m_iconst C dX12_reading_50 ?_
    refine m_call (mc2 := 0) (ms2 := 0) (As := [.int (iI 2)]) (rest := []) C (M_bad (x := 2)) dX12_reading_51 kV_X12_154 rfl ck_13 rfl (Nat.le_of_ble_eq_true rfl) ⟨Nat.le_of_ble_eq_true rfl, Nat.le_of_ble_eq_true rfl⟩ ⟨Nat.le_of_ble_eq_true rfl, Nat.le_of_ble_eq_true rfl⟩ (fun rh5 vh5 ah5 h5 => ?_)
    obtain ⟨rfl, rfl, rfl⟩ := h5
    refine m_st (st2 := [.int (iI (-1))]) rfl ?_
    exact m_iret C dX12_reading_54 rfl (Nat.le_of_ble_eq_true rfl) (Nat.le_of_ble_eq_true rfl) ⟨rfl, 2, (-1), ⟨by decide, by decide⟩, ⟨by decide, by decide⟩, rfl⟩
set_option maxHeartbeats 4000000 in
set_option maxRecDepth 100000 in
theorem M_hasHead {l : Launch} {G : GT} {h0 : Nat} {ad ln : Nat → Nat} {v : Nat → Int} {a : Nat → Nat → Int} (hR : RG v a) : Mm l G yX12_hasHead cX12_hasHead 1 (some .boolean) 0 [] h0 ad ln v a 0 0 (fun r v2 a2 => ∃ f : Int, r = some (.int (iI f)) ∧ ((f = 1 ∧ 0 < v 41 ∧ 2 ≤ v 32) ∨ f = 0) ∧ v = v2 ∧ a = a2) := by
  refine Mm.mk (by decide) (Nat.le_of_ble_eq_true rfl) ?_
  intro p e s m args below meth c A C
  refine m_aload_n (j := 0) C dX12_hasHead_0 rfl ?_
  have rv41 := hR.1 41
  refine m_get (k := 41) C dX12_hasHead_1 w6_100 (by decide) rfl ?_
  refine m_if_le (tgt := 19) C ⟨by omega, by omega⟩ dX12_hasHead_4 (by decide) (fun c1 => ?_) (fun c1 => ?_)
  · refine m_iconst C dX12_hasHead_19 ?_
    exact m_zret C dX12_hasHead_20 rfl (Or.inl rfl) (Nat.le_of_ble_eq_true rfl) (Nat.le_of_ble_eq_true rfl) ⟨0, rfl, (by omega), rfl, rfl⟩
  · refine m_aload_n (j := 0) C dX12_hasHead_7 rfl ?_
    have rv32 := hR.1 32
    refine m_get (k := 32) C dX12_hasHead_8 w6_91 (by decide) rfl ?_
    refine m_iconst C dX12_hasHead_11 ?_
    refine m_icmp_lt (tgt := 19) C ⟨by omega, by omega⟩ ⟨by decide, by decide⟩ dX12_hasHead_12 (by decide) (fun c2 => ?_) (fun c2 => ?_)
    · refine m_iconst C dX12_hasHead_19 ?_
      exact m_zret C dX12_hasHead_20 rfl (Or.inl rfl) (Nat.le_of_ble_eq_true rfl) (Nat.le_of_ble_eq_true rfl) ⟨0, rfl, (by omega), rfl, rfl⟩
    · refine m_iconst C dX12_hasHead_15 ?_
      refine m_goto (tgt := 20) C dX12_hasHead_16 (by decide) ?_
      exact m_zret C dX12_hasHead_20 rfl (Or.inr rfl) (Nat.le_of_ble_eq_true rfl) (Nat.le_of_ble_eq_true rfl) ⟨1, rfl, (by omega), rfl, rfl⟩
set_option maxHeartbeats 4000000 in
set_option maxRecDepth 100000 in
theorem M_onPage {l : Launch} {G : GT} {h0 : Nat} {ad ln : Nat → Nat} {v : Nat → Int} {a : Nat → Nat → Int} (hR : RG v a) (hI : Ims v) : Mm l G yX12_onPage cX12_onPage 1 (some .int) 1 [] h0 ad ln v a 0 0 (fun r v2 a2 => ∃ f : Int, r = some (.int (iI f)) ∧ (1 ≤ f ∧ f ≤ 50) ∧ v = v2 ∧ a = a2) := by
  refine Mm.mk (by decide) (Nat.le_of_ble_eq_true rfl) ?_
  intro p e s m args below meth c A C
  have hI1 := hI.2
  refine m_aload_n (j := 0) C dX12_onPage_0 rfl ?_
  refine m_call (mc2 := 0) (ms2 := 0) (As := []) (rest := []) C (M_hasHead  hR) dX12_onPage_1 kV_X12_288 rfl ck_13 rfl (Nat.le_of_ble_eq_true rfl) ⟨Nat.le_of_ble_eq_true rfl, Nat.le_of_ble_eq_true rfl⟩ ⟨Nat.le_of_ble_eq_true rfl, Nat.le_of_ble_eq_true rfl⟩ (fun rh1 vh1 ah1 h1 => ?_)
  obtain ⟨f1, rfl, hf1, rfl, rfl⟩ := h1
  refine m_st (st2 := [.int (iI f1)]) rfl ?_
  refine m_if_eq (tgt := 16) C ⟨by omega, by omega⟩ dX12_onPage_4 (by decide) (fun c1 => ?_) (fun c1 => ?_)
  · refine m_aload_n (j := 0) C dX12_onPage_16 rfl ?_
    have rv32 := hR.1 32
    refine m_get (k := 32) C dX12_onPage_17 w6_91 (by decide) rfl ?_
    exact m_iret C dX12_onPage_20 rfl (Nat.le_of_ble_eq_true rfl) (Nat.le_of_ble_eq_true rfl) ⟨v 32, rfl, (by omega), rfl, rfl⟩
  · refine m_aload_n (j := 0) C dX12_onPage_7 rfl ?_
    have rv32 := hR.1 32
    refine m_get (k := 32) C dX12_onPage_8 w6_91 (by decide) rfl ?_
    refine m_iconst C dX12_onPage_11 ?_
    refine m_isub C dX12_onPage_12 ?_
    refine m_goto (tgt := 20) C dX12_onPage_13 (by decide) ?_
    exact m_iret C dX12_onPage_20 rfl (Nat.le_of_ble_eq_true rfl) (Nat.le_of_ble_eq_true rfl) ⟨(v 32) - 1, rfl, (by omega), rfl, rfl⟩
set_option maxHeartbeats 4000000 in
set_option maxRecDepth 100000 in
theorem s_isSmall {l : Launch} {G : GT} {L : List Nat} {E : Nat → va_E} (x : Int32) : Mq l G yX12_isSmall cX12_isSmall 1 (some .boolean) 0 [.int x] L E 0 0 (fun v L2 E2 => v = some (.int (inn x 97 122)) ∧ L2 = L ∧ E2 = E) := by
  refine Mq.mk (by decide) (Nat.le_of_ble_eq_true rfl) ?_
  intro p e s m args below meth c A C
  refine q_iload_n (j := 0) C dX12_isSmall_0 rfl ?_
  refine q_bipush (v := 97) C dX12_isSmall_1 (by decide) ?_
  refine q_icmp_lt (tgt := 16) C dX12_isSmall_3 (by decide) (fun c1 => ?_) (fun c1 => ?_)
  · refine q_iconst (v := 0) C dX12_isSmall_16 (by decide) ?_
    exact q_zret C dX12_isSmall_17 rfl (by decide) (Nat.le_of_ble_eq_true rfl) (Nat.le_of_ble_eq_true rfl) ⟨(by refine congrArg (fun z => some (Value.int z)) ?_; unfold inn; (try simp only [i32_lt, i32_le, i32_eq, inn_f, Decidable.not_not, tn_m1, tn_0, tn_1, tn_2, tn_3, tn_4, tn_5, tn_6, tn_7, tn_8, tn_10, tn_30, tn_31, tn_32, tn_36, tn_40, tn_50, tn_100, tn_126, tn_200, tn_255, tn_500, tn_512, tn_3000, tn_5000] at c1); split <;> rename_i hz <;> (try simp only [i32_lt, i32_le, i32_eq, inn_f, Decidable.not_not, tn_m1, tn_0, tn_1, tn_2, tn_3, tn_4, tn_5, tn_6, tn_7, tn_8, tn_10, tn_30, tn_31, tn_32, tn_36, tn_40, tn_50, tn_100, tn_126, tn_200, tn_255, tn_500, tn_512, tn_3000, tn_5000] at hz) <;> first | rfl | (exfalso; omega)), rfl, rfl⟩
  · refine q_iload_n (j := 0) C dX12_isSmall_6 rfl ?_
    refine q_bipush (v := 122) C dX12_isSmall_7 (by decide) ?_
    refine q_icmp_gt (tgt := 16) C dX12_isSmall_9 (by decide) (fun c2 => ?_) (fun c2 => ?_)
    · refine q_iconst (v := 0) C dX12_isSmall_16 (by decide) ?_
      exact q_zret C dX12_isSmall_17 rfl (by decide) (Nat.le_of_ble_eq_true rfl) (Nat.le_of_ble_eq_true rfl) ⟨(by refine congrArg (fun z => some (Value.int z)) ?_; unfold inn; (try simp only [i32_lt, i32_le, i32_eq, inn_f, Decidable.not_not, tn_m1, tn_0, tn_1, tn_2, tn_3, tn_4, tn_5, tn_6, tn_7, tn_8, tn_10, tn_30, tn_31, tn_32, tn_36, tn_40, tn_50, tn_100, tn_126, tn_200, tn_255, tn_500, tn_512, tn_3000, tn_5000] at c1); (try simp only [i32_lt, i32_le, i32_eq, inn_f, Decidable.not_not, tn_m1, tn_0, tn_1, tn_2, tn_3, tn_4, tn_5, tn_6, tn_7, tn_8, tn_10, tn_30, tn_31, tn_32, tn_36, tn_40, tn_50, tn_100, tn_126, tn_200, tn_255, tn_500, tn_512, tn_3000, tn_5000] at c2); split <;> rename_i hz <;> (try simp only [i32_lt, i32_le, i32_eq, inn_f, Decidable.not_not, tn_m1, tn_0, tn_1, tn_2, tn_3, tn_4, tn_5, tn_6, tn_7, tn_8, tn_10, tn_30, tn_31, tn_32, tn_36, tn_40, tn_50, tn_100, tn_126, tn_200, tn_255, tn_500, tn_512, tn_3000, tn_5000] at hz) <;> first | rfl | (exfalso; omega)), rfl, rfl⟩
    · refine q_iconst (v := 1) C dX12_isSmall_12 (by decide) ?_
      refine q_goto (tgt := 17) C dX12_isSmall_13 (by decide) ?_
      exact q_zret C dX12_isSmall_17 rfl (by decide) (Nat.le_of_ble_eq_true rfl) (Nat.le_of_ble_eq_true rfl) ⟨(by refine congrArg (fun z => some (Value.int z)) ?_; unfold inn; (try simp only [i32_lt, i32_le, i32_eq, inn_f, Decidable.not_not, tn_m1, tn_0, tn_1, tn_2, tn_3, tn_4, tn_5, tn_6, tn_7, tn_8, tn_10, tn_30, tn_31, tn_32, tn_36, tn_40, tn_50, tn_100, tn_126, tn_200, tn_255, tn_500, tn_512, tn_3000, tn_5000] at c1); (try simp only [i32_lt, i32_le, i32_eq, inn_f, Decidable.not_not, tn_m1, tn_0, tn_1, tn_2, tn_3, tn_4, tn_5, tn_6, tn_7, tn_8, tn_10, tn_30, tn_31, tn_32, tn_36, tn_40, tn_50, tn_100, tn_126, tn_200, tn_255, tn_500, tn_512, tn_3000, tn_5000] at c2); split <;> rename_i hz <;> (try simp only [i32_lt, i32_le, i32_eq, inn_f, Decidable.not_not, tn_m1, tn_0, tn_1, tn_2, tn_3, tn_4, tn_5, tn_6, tn_7, tn_8, tn_10, tn_30, tn_31, tn_32, tn_36, tn_40, tn_50, tn_100, tn_126, tn_200, tn_255, tn_500, tn_512, tn_3000, tn_5000] at hz) <;> first | rfl | (exfalso; omega)), rfl, rfl⟩
set_option maxHeartbeats 4000000 in
set_option maxRecDepth 100000 in
theorem s_isDigit {l : Launch} {G : GT} {L : List Nat} {E : Nat → va_E} (x : Int32) : Mq l G yX12_isDigit cX12_isDigit 1 (some .boolean) 0 [.int x] L E 0 0 (fun v L2 E2 => v = some (.int (inn x 48 57)) ∧ L2 = L ∧ E2 = E) := by
  refine Mq.mk (by decide) (Nat.le_of_ble_eq_true rfl) ?_
  intro p e s m args below meth c A C
  refine q_iload_n (j := 0) C dX12_isDigit_0 rfl ?_
  refine q_bipush (v := 48) C dX12_isDigit_1 (by decide) ?_
  refine q_icmp_lt (tgt := 16) C dX12_isDigit_3 (by decide) (fun c1 => ?_) (fun c1 => ?_)
  · refine q_iconst (v := 0) C dX12_isDigit_16 (by decide) ?_
    exact q_zret C dX12_isDigit_17 rfl (by decide) (Nat.le_of_ble_eq_true rfl) (Nat.le_of_ble_eq_true rfl) ⟨(by refine congrArg (fun z => some (Value.int z)) ?_; unfold inn; (try simp only [i32_lt, i32_le, i32_eq, inn_f, Decidable.not_not, tn_m1, tn_0, tn_1, tn_2, tn_3, tn_4, tn_5, tn_6, tn_7, tn_8, tn_10, tn_30, tn_31, tn_32, tn_36, tn_40, tn_50, tn_100, tn_126, tn_200, tn_255, tn_500, tn_512, tn_3000, tn_5000] at c1); split <;> rename_i hz <;> (try simp only [i32_lt, i32_le, i32_eq, inn_f, Decidable.not_not, tn_m1, tn_0, tn_1, tn_2, tn_3, tn_4, tn_5, tn_6, tn_7, tn_8, tn_10, tn_30, tn_31, tn_32, tn_36, tn_40, tn_50, tn_100, tn_126, tn_200, tn_255, tn_500, tn_512, tn_3000, tn_5000] at hz) <;> first | rfl | (exfalso; omega)), rfl, rfl⟩
  · refine q_iload_n (j := 0) C dX12_isDigit_6 rfl ?_
    refine q_bipush (v := 57) C dX12_isDigit_7 (by decide) ?_
    refine q_icmp_gt (tgt := 16) C dX12_isDigit_9 (by decide) (fun c2 => ?_) (fun c2 => ?_)
    · refine q_iconst (v := 0) C dX12_isDigit_16 (by decide) ?_
      exact q_zret C dX12_isDigit_17 rfl (by decide) (Nat.le_of_ble_eq_true rfl) (Nat.le_of_ble_eq_true rfl) ⟨(by refine congrArg (fun z => some (Value.int z)) ?_; unfold inn; (try simp only [i32_lt, i32_le, i32_eq, inn_f, Decidable.not_not, tn_m1, tn_0, tn_1, tn_2, tn_3, tn_4, tn_5, tn_6, tn_7, tn_8, tn_10, tn_30, tn_31, tn_32, tn_36, tn_40, tn_50, tn_100, tn_126, tn_200, tn_255, tn_500, tn_512, tn_3000, tn_5000] at c1); (try simp only [i32_lt, i32_le, i32_eq, inn_f, Decidable.not_not, tn_m1, tn_0, tn_1, tn_2, tn_3, tn_4, tn_5, tn_6, tn_7, tn_8, tn_10, tn_30, tn_31, tn_32, tn_36, tn_40, tn_50, tn_100, tn_126, tn_200, tn_255, tn_500, tn_512, tn_3000, tn_5000] at c2); split <;> rename_i hz <;> (try simp only [i32_lt, i32_le, i32_eq, inn_f, Decidable.not_not, tn_m1, tn_0, tn_1, tn_2, tn_3, tn_4, tn_5, tn_6, tn_7, tn_8, tn_10, tn_30, tn_31, tn_32, tn_36, tn_40, tn_50, tn_100, tn_126, tn_200, tn_255, tn_500, tn_512, tn_3000, tn_5000] at hz) <;> first | rfl | (exfalso; omega)), rfl, rfl⟩
    · refine q_iconst (v := 1) C dX12_isDigit_12 (by decide) ?_
      refine q_goto (tgt := 17) C dX12_isDigit_13 (by decide) ?_
      exact q_zret C dX12_isDigit_17 rfl (by decide) (Nat.le_of_ble_eq_true rfl) (Nat.le_of_ble_eq_true rfl) ⟨(by refine congrArg (fun z => some (Value.int z)) ?_; unfold inn; (try simp only [i32_lt, i32_le, i32_eq, inn_f, Decidable.not_not, tn_m1, tn_0, tn_1, tn_2, tn_3, tn_4, tn_5, tn_6, tn_7, tn_8, tn_10, tn_30, tn_31, tn_32, tn_36, tn_40, tn_50, tn_100, tn_126, tn_200, tn_255, tn_500, tn_512, tn_3000, tn_5000] at c1); (try simp only [i32_lt, i32_le, i32_eq, inn_f, Decidable.not_not, tn_m1, tn_0, tn_1, tn_2, tn_3, tn_4, tn_5, tn_6, tn_7, tn_8, tn_10, tn_30, tn_31, tn_32, tn_36, tn_40, tn_50, tn_100, tn_126, tn_200, tn_255, tn_500, tn_512, tn_3000, tn_5000] at c2); split <;> rename_i hz <;> (try simp only [i32_lt, i32_le, i32_eq, inn_f, Decidable.not_not, tn_m1, tn_0, tn_1, tn_2, tn_3, tn_4, tn_5, tn_6, tn_7, tn_8, tn_10, tn_30, tn_31, tn_32, tn_36, tn_40, tn_50, tn_100, tn_126, tn_200, tn_255, tn_500, tn_512, tn_3000, tn_5000] at hz) <;> first | rfl | (exfalso; omega)), rfl, rfl⟩
set_option maxHeartbeats 4000000 in
set_option maxRecDepth 100000 in
theorem s_isGreat {l : Launch} {G : GT} {L : List Nat} {E : Nat → va_E} (x : Int32) : Mq l G yX12_isGreat cX12_isGreat 1 (some .boolean) 0 [.int x] L E 0 0 (fun v L2 E2 => v = some (.int (inn x 65 90)) ∧ L2 = L ∧ E2 = E) := by
  refine Mq.mk (by decide) (Nat.le_of_ble_eq_true rfl) ?_
  intro p e s m args below meth c A C
  refine q_iload_n (j := 0) C dX12_isGreat_0 rfl ?_
  refine q_bipush (v := 65) C dX12_isGreat_1 (by decide) ?_
  refine q_icmp_lt (tgt := 16) C dX12_isGreat_3 (by decide) (fun c1 => ?_) (fun c1 => ?_)
  · refine q_iconst (v := 0) C dX12_isGreat_16 (by decide) ?_
    exact q_zret C dX12_isGreat_17 rfl (by decide) (Nat.le_of_ble_eq_true rfl) (Nat.le_of_ble_eq_true rfl) ⟨(by refine congrArg (fun z => some (Value.int z)) ?_; unfold inn; (try simp only [i32_lt, i32_le, i32_eq, inn_f, Decidable.not_not, tn_m1, tn_0, tn_1, tn_2, tn_3, tn_4, tn_5, tn_6, tn_7, tn_8, tn_10, tn_30, tn_31, tn_32, tn_36, tn_40, tn_50, tn_100, tn_126, tn_200, tn_255, tn_500, tn_512, tn_3000, tn_5000] at c1); split <;> rename_i hz <;> (try simp only [i32_lt, i32_le, i32_eq, inn_f, Decidable.not_not, tn_m1, tn_0, tn_1, tn_2, tn_3, tn_4, tn_5, tn_6, tn_7, tn_8, tn_10, tn_30, tn_31, tn_32, tn_36, tn_40, tn_50, tn_100, tn_126, tn_200, tn_255, tn_500, tn_512, tn_3000, tn_5000] at hz) <;> first | rfl | (exfalso; omega)), rfl, rfl⟩
  · refine q_iload_n (j := 0) C dX12_isGreat_6 rfl ?_
    refine q_bipush (v := 90) C dX12_isGreat_7 (by decide) ?_
    refine q_icmp_gt (tgt := 16) C dX12_isGreat_9 (by decide) (fun c2 => ?_) (fun c2 => ?_)
    · refine q_iconst (v := 0) C dX12_isGreat_16 (by decide) ?_
      exact q_zret C dX12_isGreat_17 rfl (by decide) (Nat.le_of_ble_eq_true rfl) (Nat.le_of_ble_eq_true rfl) ⟨(by refine congrArg (fun z => some (Value.int z)) ?_; unfold inn; (try simp only [i32_lt, i32_le, i32_eq, inn_f, Decidable.not_not, tn_m1, tn_0, tn_1, tn_2, tn_3, tn_4, tn_5, tn_6, tn_7, tn_8, tn_10, tn_30, tn_31, tn_32, tn_36, tn_40, tn_50, tn_100, tn_126, tn_200, tn_255, tn_500, tn_512, tn_3000, tn_5000] at c1); (try simp only [i32_lt, i32_le, i32_eq, inn_f, Decidable.not_not, tn_m1, tn_0, tn_1, tn_2, tn_3, tn_4, tn_5, tn_6, tn_7, tn_8, tn_10, tn_30, tn_31, tn_32, tn_36, tn_40, tn_50, tn_100, tn_126, tn_200, tn_255, tn_500, tn_512, tn_3000, tn_5000] at c2); split <;> rename_i hz <;> (try simp only [i32_lt, i32_le, i32_eq, inn_f, Decidable.not_not, tn_m1, tn_0, tn_1, tn_2, tn_3, tn_4, tn_5, tn_6, tn_7, tn_8, tn_10, tn_30, tn_31, tn_32, tn_36, tn_40, tn_50, tn_100, tn_126, tn_200, tn_255, tn_500, tn_512, tn_3000, tn_5000] at hz) <;> first | rfl | (exfalso; omega)), rfl, rfl⟩
    · refine q_iconst (v := 1) C dX12_isGreat_12 (by decide) ?_
      refine q_goto (tgt := 17) C dX12_isGreat_13 (by decide) ?_
      exact q_zret C dX12_isGreat_17 rfl (by decide) (Nat.le_of_ble_eq_true rfl) (Nat.le_of_ble_eq_true rfl) ⟨(by refine congrArg (fun z => some (Value.int z)) ?_; unfold inn; (try simp only [i32_lt, i32_le, i32_eq, inn_f, Decidable.not_not, tn_m1, tn_0, tn_1, tn_2, tn_3, tn_4, tn_5, tn_6, tn_7, tn_8, tn_10, tn_30, tn_31, tn_32, tn_36, tn_40, tn_50, tn_100, tn_126, tn_200, tn_255, tn_500, tn_512, tn_3000, tn_5000] at c1); (try simp only [i32_lt, i32_le, i32_eq, inn_f, Decidable.not_not, tn_m1, tn_0, tn_1, tn_2, tn_3, tn_4, tn_5, tn_6, tn_7, tn_8, tn_10, tn_30, tn_31, tn_32, tn_36, tn_40, tn_50, tn_100, tn_126, tn_200, tn_255, tn_500, tn_512, tn_3000, tn_5000] at c2); split <;> rename_i hz <;> (try simp only [i32_lt, i32_le, i32_eq, inn_f, Decidable.not_not, tn_m1, tn_0, tn_1, tn_2, tn_3, tn_4, tn_5, tn_6, tn_7, tn_8, tn_10, tn_30, tn_31, tn_32, tn_36, tn_40, tn_50, tn_100, tn_126, tn_200, tn_255, tn_500, tn_512, tn_3000, tn_5000] at hz) <;> first | rfl | (exfalso; omega)), rfl, rfl⟩
