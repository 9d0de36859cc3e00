set_option maxHeartbeats 4000000 in
set_option maxRecDepth 100000 in
theorem s_isIn {l : Launch} {G : GT} {L : List Nat} {E : Nat → va_E} (x lo hi : Int32) : Mq l G yX12_isIn cX12_isIn 3 (some .boolean) 0 [.int x, .int lo, .int hi] L E 0 0 (fun v L2 E2 => v = some (.int (inn x lo hi)) ∧ L2 = L ∧ E2 = E) := by
  refine Mq.mk (by decide) (Nat.le_of_ble_eq_true rfl) ?_
  intro p e s m args below meth c A C
  refine q_iload_n (j := 0) C dX12_isIn_0 rfl ?_
  refine q_iload_n (j := 1) C dX12_isIn_1 rfl ?_
  refine q_icmp_lt (tgt := 14) C dX12_isIn_2 (by decide) (fun c1 => ?_) (fun c1 => ?_)
  · refine q_iconst (v := 0) C dX12_isIn_14 (by decide) ?_
    exact q_zret C dX12_isIn_15 rfl (by decide) (Nat.le_of_ble_eq_true rfl) (Nat.le_of_ble_eq_true rfl) ⟨(by refine congrArg (fun z => some (Value.int z)) ?_; unfold inn; (try simp only [i32_lt, i32_le, i32_eq, inn_f, Decidable.not_not, tn_m1, tn_0, tn_1, tn_2, tn_3, tn_4, tn_5, tn_6, tn_7, tn_8, tn_10, tn_30, tn_31, tn_32, tn_36, tn_40, tn_50, tn_100, tn_126, tn_200, tn_255, tn_500, tn_512, tn_3000, tn_5000] at c1); split <;> rename_i hz <;> (try simp only [i32_lt, i32_le, i32_eq, inn_f, Decidable.not_not, tn_m1, tn_0, tn_1, tn_2, tn_3, tn_4, tn_5, tn_6, tn_7, tn_8, tn_10, tn_30, tn_31, tn_32, tn_36, tn_40, tn_50, tn_100, tn_126, tn_200, tn_255, tn_500, tn_512, tn_3000, tn_5000] at hz) <;> first | rfl | (exfalso; omega)), rfl, rfl⟩
  · refine q_iload_n (j := 0) C dX12_isIn_5 rfl ?_
    refine q_iload_n (j := 2) C dX12_isIn_6 rfl ?_
    refine q_icmp_gt (tgt := 14) C dX12_isIn_7 (by decide) (fun c2 => ?_) (fun c2 => ?_)
    · refine q_iconst (v := 0) C dX12_isIn_14 (by decide) ?_
      exact q_zret C dX12_isIn_15 rfl (by decide) (Nat.le_of_ble_eq_true rfl) (Nat.le_of_ble_eq_true rfl) ⟨(by refine congrArg (fun z => some (Value.int z)) ?_; unfold inn; (try simp only [i32_lt, i32_le, i32_eq, inn_f, Decidable.not_not, tn_m1, tn_0, tn_1, tn_2, tn_3, tn_4, tn_5, tn_6, tn_7, tn_8, tn_10, tn_30, tn_31, tn_32, tn_36, tn_40, tn_50, tn_100, tn_126, tn_200, tn_255, tn_500, tn_512, tn_3000, tn_5000] at c1); (try simp only [i32_lt, i32_le, i32_eq, inn_f, Decidable.not_not, tn_m1, tn_0, tn_1, tn_2, tn_3, tn_4, tn_5, tn_6, tn_7, tn_8, tn_10, tn_30, tn_31, tn_32, tn_36, tn_40, tn_50, tn_100, tn_126, tn_200, tn_255, tn_500, tn_512, tn_3000, tn_5000] at c2); split <;> rename_i hz <;> (try simp only [i32_lt, i32_le, i32_eq, inn_f, Decidable.not_not, tn_m1, tn_0, tn_1, tn_2, tn_3, tn_4, tn_5, tn_6, tn_7, tn_8, tn_10, tn_30, tn_31, tn_32, tn_36, tn_40, tn_50, tn_100, tn_126, tn_200, tn_255, tn_500, tn_512, tn_3000, tn_5000] at hz) <;> first | rfl | (exfalso; omega)), rfl, rfl⟩
    · refine q_iconst (v := 1) C dX12_isIn_10 (by decide) ?_
      refine q_goto (tgt := 15) C dX12_isIn_11 (by decide) ?_
      exact q_zret C dX12_isIn_15 rfl (by decide) (Nat.le_of_ble_eq_true rfl) (Nat.le_of_ble_eq_true rfl) ⟨(by refine congrArg (fun z => some (Value.int z)) ?_; unfold inn; (try simp only [i32_lt, i32_le, i32_eq, inn_f, Decidable.not_not, tn_m1, tn_0, tn_1, tn_2, tn_3, tn_4, tn_5, tn_6, tn_7, tn_8, tn_10, tn_30, tn_31, tn_32, tn_36, tn_40, tn_50, tn_100, tn_126, tn_200, tn_255, tn_500, tn_512, tn_3000, tn_5000] at c1); (try simp only [i32_lt, i32_le, i32_eq, inn_f, Decidable.not_not, tn_m1, tn_0, tn_1, tn_2, tn_3, tn_4, tn_5, tn_6, tn_7, tn_8, tn_10, tn_30, tn_31, tn_32, tn_36, tn_40, tn_50, tn_100, tn_126, tn_200, tn_255, tn_500, tn_512, tn_3000, tn_5000] at c2); split <;> rename_i hz <;> (try simp only [i32_lt, i32_le, i32_eq, inn_f, Decidable.not_not, tn_m1, tn_0, tn_1, tn_2, tn_3, tn_4, tn_5, tn_6, tn_7, tn_8, tn_10, tn_30, tn_31, tn_32, tn_36, tn_40, tn_50, tn_100, tn_126, tn_200, tn_255, tn_500, tn_512, tn_3000, tn_5000] at hz) <;> first | rfl | (exfalso; omega)), rfl, rfl⟩
theorem inn_c {x lo hi : Int} (hx : R32 x) (h1 : R32 lo) (h2 : R32 hi) : (lo ≤ x ∧ x ≤ hi ∧ inn (iI x) (iI lo) (iI hi) = iI 1) ∨ (¬ (lo ≤ x ∧ x ≤ hi) ∧ inn (iI x) (iI lo) (iI hi) = iI 0) := by
  unfold inn
  by_cases h : lo ≤ x ∧ x ≤ hi
  · exact Or.inl ⟨h.1, h.2, if_pos ⟨(iI_le h1 hx).mpr h.1, (iI_le hx h2).mpr h.2⟩⟩
  · exact Or.inr ⟨h, if_neg (fun q => h ⟨(iI_le h1 hx).mp q.1, (iI_le hx h2).mp q.2⟩)⟩
set_option maxHeartbeats 4000000 in
set_option maxRecDepth 100000 in
theorem M_fine {l : Launch} {G : GT} {h0 : Nat} {ad ln : Nat → Nat} {v : Nat → Int} {a : Nat → Nat → Int} {x : Int}  : Mm l G yX12_fine cX12_fine 2 (some .int) 0 [.int (iI x)] h0 ad ln v a 0 0 (fun r v2 a2 => r = some (.int (iI x)) ∧ v2 = va_up (va_up v 0 0) 1 (-1) ∧ a2 = a) := by
  refine Mm.mk (by decide) (Nat.le_of_ble_eq_true rfl) ?_
  intro p e s m args below meth c A C
  refine m_aload_n (j := 0) C dX12_fine_0 rfl ?_
  refine m_iconst C dX12_fine_1 ?_
  refine m_put (k := 0) (z := 0) C dX12_fine_2 w6_59 (by decide) rfl rfl rfl ?_
  refine m_aload_n (j := 0) C dX12_fine_5 rfl ?_
  refine m_iconst C dX12_fine_6 ?_
  refine m_put (k := 1) (z := (-1)) C dX12_fine_7 w6_60 (by decide) rfl rfl rfl ?_
  refine m_iload_n (j := 1) C dX12_fine_10 rfl ?_
  exact m_iret C dX12_fine_11 rfl (Nat.le_of_ble_eq_true rfl) (Nat.le_of_ble_eq_true rfl) ⟨rfl, rfl, rfl⟩
set_option maxHeartbeats 4000000 in
set_option maxRecDepth 100000 in
theorem M_bad {l : Launch} {G : GT} {h0 : Nat} {ad ln : Nat → Nat} {v : Nat → Int} {a : Nat → Nat → Int} {x : Int}  : Mm l G yX12_bad cX12_bad 2 (some .int) 0 [.int (iI x)] h0 ad ln v a 0 0 (fun r v2 a2 => r = some (.int (iI (-1))) ∧ v2 = va_up (va_up v 0 x) 1 (-1) ∧ a2 = a) := by
  refine Mm.mk (by decide) (Nat.le_of_ble_eq_true rfl) ?_
  intro p e s m args below meth c A C
  refine m_aload_n (j := 0) C dX12_bad_0 rfl ?_
  refine m_iload_n (j := 1) C dX12_bad_1 rfl ?_
  refine m_put (k := 0) (z := x) C dX12_bad_2 w6_59 (by decide) rfl rfl rfl ?_
  refine m_aload_n (j := 0) C dX12_bad_5 rfl ?_
  refine m_iconst C dX12_bad_6 ?_
  refine m_put (k := 1) (z := (-1)) C dX12_bad_7 w6_60 (by decide) rfl rfl rfl ?_
  refine m_iconst C dX12_bad_10 ?_
  exact m_iret C dX12_bad_11 rfl (Nat.le_of_ble_eq_true rfl) (Nat.le_of_ble_eq_true rfl) ⟨rfl, rfl, rfl⟩
set_option maxHeartbeats 4000000 in
set_option maxRecDepth 100000 in
theorem M_taken {l : Launch} {G : GT} {h0 : Nat} {ad ln : Nat → Nat} {v : Nat → Int} {a : Nat → Nat → Int}  : Mm l G yX12_taken cX12_taken 2 (some .int) 0 [] h0 ad ln v a 0 0 (fun r v2 a2 => r = some (.int (iI (v 3))) ∧ v2 = va_up v 3 0 ∧ a2 = a) := by
  refine Mm.mk (by decide) (Nat.le_of_ble_eq_true rfl) ?_
  intro p e s m args below meth c A C
  refine m_aload_n (j := 0) C dX12_taken_0 rfl ?_
  refine m_get (k := 3) C dX12_taken_1 w6_62 (by decide) rfl ?_
  refine m_istore_n (lv2 := [(1, .int (iI (v 3))), (0, .ref h0)]) C dX12_taken_4 (by decide) rfl ?_
  refine m_aload_n (j := 1) C dX12_taken_5 rfl ?_
  refine m_iconst C dX12_taken_6 ?_
  refine m_put (k := 3) (z := 0) C dX12_taken_7 w6_62 (by decide) rfl rfl rfl ?_
  refine m_iload_n (j := 0) C dX12_taken_10 rfl ?_
  exact m_iret C dX12_taken_11 rfl (Nat.le_of_ble_eq_true rfl) (Nat.le_of_ble_eq_true rfl) ⟨rfl, rfl, rfl⟩
def RG (v : Nat → Int) (a : Nat → Nat → Int) : Prop := (∀ k, R32 (v k)) ∧ ∀ k j, R32 (a k j)
set_option maxHeartbeats 4000000 in
set_option maxRecDepth 100000 in
theorem M_isTable {l : Launch} {G : GT} {h0 : Nat} {ad ln : Nat → Nat} {v : Nat → Int} {a : Nat → Nat → Int} {t : Int} (ht : R32 t) (hv : 0 ≤ v 4 ∧ v 4 ≤ 30) (hb : ∀ j, a 5 j = 0 ∨ a 5 j = 1) : Mm l G yX12_isTable cX12_isTable 2 (some .boolean) 0 [.int (iI t)] h0 ad ln v a 0 0 (fun r v2 a2 => (r = some (.int (iI 1)) ∧ 0 ≤ t ∧ t < v 4 ∧ a 5 t.toNat = 1 ∨ r = some (.int (iI 0))) ∧ v2 = v ∧ a2 = a) := by
  refine Mm.mk (by decide) (Nat.le_of_ble_eq_true rfl) ?_
  intro p e s m args below meth c A C
  refine m_iload_n (j := 1) C dX12_isTable_0 rfl ?_
  refine m_if_lt (tgt := 25) C ⟨by omega, by omega⟩ dX12_isTable_1 (by decide) (fun c1 => ?_) (fun c1 => ?_)
  · refine m_iconst C dX12_isTable_25 ?_
    exact m_zret C dX12_isTable_26 rfl (Or.inl rfl) (Nat.le_of_ble_eq_true rfl) (Nat.le_of_ble_eq_true rfl) ⟨Or.inr rfl, rfl, rfl⟩
  · refine m_iload_n (j := 1) C dX12_isTable_4 rfl ?_
    refine m_aload_n (j := 0) C dX12_isTable_5 rfl ?_
    refine m_get (k := 4) C dX12_isTable_6 w6_63 (by decide) rfl ?_
    refine m_icmp_ge (tgt := 25) C ⟨by omega, by omega⟩ ⟨by omega, by omega⟩ dX12_isTable_9 (by decide) (fun c2 => ?_) (fun c2 => ?_)
    · refine m_iconst C dX12_isTable_25 ?_
      exact m_zret C dX12_isTable_26 rfl (Or.inl rfl) (Nat.le_of_ble_eq_true rfl) (Nat.le_of_ble_eq_true rfl) ⟨Or.inr rfl, rfl, rfl⟩
    · refine m_aload_n (j := 0) C dX12_isTable_12 rfl ?_
      refine m_geta (k := 5) C dX12_isTable_13 w6_64 (by decide) rfl ?_
      refine m_iload_n (j := 1) C dX12_isTable_16 rfl ?_
      refine m_zald (k := 5) C dX12_isTable_17 rfl rfl (by decide) (by omega) (by show _ < ((_ : Nat) : Int); simp only [mlen]; omega) (by decide) ?_
      have hb0 := hb t.toNat
      refine m_if_eq (tgt := 25) C ⟨by omega, by omega⟩ dX12_isTable_18 (by decide) (fun c3 => ?_) (fun c3 => ?_)
      · refine m_iconst C dX12_isTable_25 ?_
        exact m_zret C dX12_isTable_26 rfl (Or.inl rfl) (Nat.le_of_ble_eq_true rfl) (Nat.le_of_ble_eq_true rfl) ⟨Or.inr rfl, rfl, rfl⟩
      · refine m_iconst C dX12_isTable_21 ?_
        refine m_goto (tgt := 26) C dX12_isTable_22 (by decide) ?_
        exact m_zret C dX12_isTable_26 rfl (Or.inr rfl) (Nat.le_of_ble_eq_true rfl) (Nat.le_of_ble_eq_true rfl) ⟨Or.inl ⟨rfl, by omega, by omega, by omega⟩, rfl, rfl⟩
set_option maxHeartbeats 4000000 in
set_option maxRecDepth 100000 in
theorem M_measure {l : Launch} {G : GT} {h0 : Nat} {ad ln : Nat → Nat} {v : Nat → Int} {a : Nat → Nat → Int} {w1 h1 y1 : Int} (hw : R32 w1) (hh : R32 h1) (hy : R32 y1) : Mm l G yX12_measure cX12_measure 4 (some .int) 1 [.int (iI w1), .int (iI h1), .int (iI y1)] h0 ad ln v a 0 0 (fun r v2 a2 => a2 = a ∧ ∀ k, k ≠ 0 → k ≠ 1 → k ≠ 31 → k ≠ 32 → k ≠ 33 → v2 k = v k) := by
  refine Mm.mk (by decide) (Nat.le_of_ble_eq_true rfl) ?_
  intro p e s m args below meth c A C
  refine m_iload_n (j := 1) C dX12_measure_0 rfl ?_
  refine m_iconst C dX12_measure_1 ?_
  refine m_bipush (z := 100) C dX12_measure_2 (by decide) ?_
  refine m_callS (As := [.int (iI w1), .int (iI 1), .int (iI 100)]) (rest := []) C (fun L E => s_isIn (iI w1) (iI 1) (iI 100)) dX12_measure_4 kS_X12_174 rfl rfl (Nat.le_of_ble_eq_true rfl) ⟨Nat.le_of_ble_eq_true rfl, Nat.le_of_ble_eq_true rfl⟩ ⟨Nat.le_of_ble_eq_true rfl, Nat.le_of_ble_eq_true rfl⟩ ?_
  rcases inn_c (x := w1) (lo := 1) (hi := 100) ⟨by omega, by omega⟩ ⟨by decide, by decide⟩ ⟨by decide, by decide⟩ with ⟨h1a, h1b, h1e⟩ | ⟨h1a, h1e⟩
  · refine m_st (st2 := [.int (iI 1)]) (by rw [h1e]) ?_
    refine m_if_eq (tgt := 31) C ⟨by decide, by decide⟩ dX12_measure_7 (by decide) (fun z => absurd z (by omega)) (fun _ => ?_)
    refine m_iload_n (j := 2) C dX12_measure_10 rfl ?_
    refine m_iconst C dX12_measure_11 ?_
    refine m_bipush (z := 50) C dX12_measure_12 (by decide) ?_
    refine m_callS (As := [.int (iI h1), .int (iI 1), .int (iI 50)]) (rest := []) C (fun L E => s_isIn (iI h1) (iI 1) (iI 50)) dX12_measure_14 kS_X12_174 rfl rfl (Nat.le_of_ble_eq_true rfl) ⟨Nat.le_of_ble_eq_true rfl, Nat.le_of_ble_eq_true rfl⟩ ⟨Nat.le_of_ble_eq_true rfl, Nat.le_of_ble_eq_true rfl⟩ ?_
    rcases inn_c (x := h1) (lo := 1) (hi := 50) ⟨by omega, by omega⟩ ⟨by decide, by decide⟩ ⟨by decide, by decide⟩ with ⟨h2a, h2b, h2e⟩ | ⟨h2a, h2e⟩
    · refine m_st (st2 := [.int (iI 1)]) (by rw [h2e]) ?_
      refine m_if_eq (tgt := 31) C ⟨by decide, by decide⟩ dX12_measure_17 (by decide) (fun z => absurd z (by omega)) (fun _ => ?_)
      refine m_iload_n (j := 3) C dX12_measure_20 rfl ?_
      refine m_iconst C dX12_measure_21 ?_
      refine m_sipush (z := 255) C dX12_measure_22 (by decide) ?_
      refine m_callS (As := [.int (iI y1), .int (iI 1), .int (iI 255)]) (rest := []) C (fun L E => s_isIn (iI y1) (iI 1) (iI 255)) dX12_measure_25 kS_X12_174 rfl rfl (Nat.le_of_ble_eq_true rfl) ⟨Nat.le_of_ble_eq_true rfl, Nat.le_of_ble_eq_true rfl⟩ ⟨Nat.le_of_ble_eq_true rfl, Nat.le_of_ble_eq_true rfl⟩ ?_
      rcases inn_c (x := y1) (lo := 1) (hi := 255) ⟨by omega, by omega⟩ ⟨by decide, by decide⟩ ⟨by decide, by decide⟩ with ⟨h3a, h3b, h3e⟩ | ⟨h3a, h3e⟩
      · refine m_st (st2 := [.int (iI 1)]) (by rw [h3e]) ?_
        refine m_if_ne (tgt := 38) C ⟨by decide, by decide⟩ dX12_measure_28 (by decide) (fun _ => ?_) (fun z => absurd z (by omega))
        refine m_aload_n (j := 0) C dX12_measure_38 rfl ?_
        refine m_iload_n (j := 1) C dX12_measure_39 rfl ?_
        refine m_put (k := 31) (z := w1) C dX12_measure_40 w6_90 (by decide) rfl rfl rfl ?_
        refine m_aload_n (j := 0) C dX12_measure_43 rfl ?_
        refine m_iload_n (j := 2) C dX12_measure_44 rfl ?_
        refine m_put (k := 32) (z := h1) C dX12_measure_45 w6_91 (by decide) rfl rfl rfl ?_
        refine m_aload_n (j := 0) C dX12_measure_48 rfl ?_
        refine m_iload_n (j := 3) C dX12_measure_49 rfl ?_
        refine m_put (k := 33) (z := y1) C dX12_measure_50 w6_92 (by decide) rfl rfl rfl ?_
        refine m_aload_n (j := 0) C dX12_measure_53 rfl ?_
        refine m_iconst C dX12_measure_54 ?_
        refine m_call (mc2 := 0) (ms2 := 0) (As := [.int (iI 1)]) (rest := []) C (M_fine (x := 1)) dX12_measure_55 kV_X12_158 rfl ck_13 rfl (Nat.le_of_ble_eq_true rfl) ⟨Nat.le_of_ble_eq_true rfl, Nat.le_of_ble_eq_true rfl⟩ ⟨Nat.le_of_ble_eq_true rfl, Nat.le_of_ble_eq_true rfl⟩ (fun rh4 vh4 ah4 h4 => ?_)
        obtain ⟨rfl, rfl, rfl⟩ := h4
        refine m_st (st2 := [.int (iI 1)]) rfl ?_
        exact m_iret C dX12_measure_58 rfl (Nat.le_of_ble_eq_true rfl) (Nat.le_of_ble_eq_true rfl) ⟨rfl, fun k n0 n1 n2 n3 n4 => by simp [va_up, n0, n1, n2, n3, n4]⟩
      · refine m_st (st2 := [.int (iI 0)]) (by rw [h3e]) ?_
        refine m_if_ne (tgt := 38) C ⟨by decide, by decide⟩ dX12_measure_28 (by decide) (fun z => absurd z (by omega)) (fun _ => ?_)
        refine m_aload_n (j := 0) C dX12_measure_31 rfl ?_
        refine m_bipush (z := 6) C dX12_measure_32 (by decide) ?_
        refine m_call (mc2 := 0) (ms2 := 0) (As := [.int (iI 6)]) (rest := []) C (M_bad (x := 6)) dX12_measure_34 kV_X12_154 rfl ck_13 rfl (Nat.le_of_ble_eq_true rfl) ⟨Nat.le_of_ble_eq_true rfl, Nat.le_of_ble_eq_true rfl⟩ ⟨Nat.le_of_ble_eq_true rfl, Nat.le_of_ble_eq_true rfl⟩ (fun rh5 vh5 ah5 h5 => ?_)
        obtain ⟨rfl, rfl, rfl⟩ := h5
        refine m_st (st2 := [.int (iI (-1))]) rfl ?_
        exact m_iret C dX12_measure_37 rfl (Nat.le_of_ble_eq_true rfl) (Nat.le_of_ble_eq_true rfl) ⟨rfl, fun k n0 n1 n2 n3 n4 => by simp [va_up, n0, n1, n2, n3, n4]⟩
    · refine m_st (st2 := [.int (iI 0)]) (by rw [h2e]) ?_
      refine m_if_eq (tgt := 31) C ⟨by decide, by decide⟩ dX12_measure_17 (by decide) (fun _ => ?_) (fun z => absurd z (by omega))
      refine m_aload_n (j := 0) C dX12_measure_31 rfl ?_
      refine m_bipush (z := 6) C dX12_measure_32 (by decide) ?_
      refine m_call (mc2 := 0) (ms2 := 0) (As := [.int (iI 6)]) (rest := []) C (M_bad (x := 6)) dX12_measure_34 kV_X12_154 rfl ck_13 rfl (Nat.le_of_ble_eq_true rfl) ⟨Nat.le_of_ble_eq_true rfl, Nat.le_of_ble_eq_true rfl⟩ ⟨Nat.le_of_ble_eq_true rfl, Nat.le_of_ble_eq_true rfl⟩ (fun rh6 vh6 ah6 h6 => ?_)
      obtain ⟨rfl, rfl, rfl⟩ := h6
      refine m_st (st2 := [.int (iI (-1))]) rfl ?_
      exact m_iret C dX12_measure_37 rfl (Nat.le_of_ble_eq_true rfl) (Nat.le_of_ble_eq_true rfl) ⟨rfl, fun k n0 n1 n2 n3 n4 => by simp [va_up, n0, n1, n2, n3, n4]⟩
  · refine m_st (st2 := [.int (iI 0)]) (by rw [h1e]) ?_
    refine m_if_eq (tgt := 31) C ⟨by decide, by decide⟩ dX12_measure_7 (by decide) (fun _ => ?_) (fun z => absurd z (by omega))
    refine m_aload_n (j := 0) C dX12_measure_31 rfl ?_
    refine m_bipush (z := 6) C dX12_measure_32 (by decide) ?_
    refine m_call (mc2 := 0) (ms2 := 0) (As := [.int (iI 6)]) (rest := []) C (M_bad (x := 6)) dX12_measure_34 kV_X12_154 rfl ck_13 rfl (Nat.le_of_ble_eq_true rfl) ⟨Nat.le_of_ble_eq_true rfl, Nat.le_of_ble_eq_true rfl⟩ ⟨Nat.le_of_ble_eq_true rfl, Nat.le_of_ble_eq_true rfl⟩ (fun rh7 vh7 ah7 h7 => ?_)
    obtain ⟨rfl, rfl, rfl⟩ := h7
    refine m_st (st2 := [.int (iI (-1))]) rfl ?_
    exact m_iret C dX12_measure_37 rfl (Nat.le_of_ble_eq_true rfl) (Nat.le_of_ble_eq_true rfl) ⟨rfl, fun k n0 n1 n2 n3 n4 => by simp [va_up, n0, n1, n2, n3, n4]⟩
set_option maxHeartbeats 4000000 in
set_option maxRecDepth 100000 in
theorem M_end {l : Launch} {G : GT} {h0 : Nat} {ad ln : Nat → Nat} {v : Nat → Int} {a : Nat → Nat → Int} {n : Int} (hn : R32 n) (hv : 0 ≤ v 3 ∧ v 3 ≤ 3000) : Mm l G yX12_end cX12_end 2 (some .int) 1 [.int (iI n)] h0 ad ln v a 0 0 (fun r v2 a2 => a2 = a ∧ (∀ k, k ≠ 0 → k ≠ 1 → k ≠ 3 → v2 k = v k) ∧ (0 ≤ v2 3 ∧ v2 3 ≤ 3000)) := by
  refine Mm.mk (by decide) (Nat.le_of_ble_eq_true rfl) ?_
  intro p e s m args below meth c A C
  refine m_iload_n (j := 1) C dX12_end_0 rfl ?_
  refine m_if_ge (tgt := 10) C ⟨by omega, by omega⟩ dX12_end_1 (by decide) (fun c1 => ?_) (fun c1 => ?_)
  · refine m_iload_n (j := 1) C dX12_end_10 rfl ?_
    refine m_aload_n (j := 0) C dX12_end_11 rfl ?_
    refine m_get (k := 3) C dX12_end_12 w6_62 (by decide) rfl ?_
    refine m_icmp_le (tgt := 25) C ⟨by omega, by omega⟩ ⟨by omega, by omega⟩ dX12_end_15 (by decide) (fun c2 => ?_) (fun c2 => ?_)
    · refine m_aload_n (j := 0) C dX12_end_25 rfl ?_
      refine m_iload_n (j := 1) C dX12_end_26 rfl ?_
      refine m_put (k := 3) (z := n) C dX12_end_27 w6_62 (by decide) rfl rfl rfl ?_
      refine m_aload_n (j := 0) C dX12_end_30 rfl ?_
      refine m_iload_n (j := 1) C dX12_end_31 rfl ?_
      refine m_call (mc2 := 0) (ms2 := 0) (As := [.int (iI n)]) (rest := []) C (M_fine (x := n)) dX12_end_32 kV_X12_158 rfl ck_13 rfl (Nat.le_of_ble_eq_true rfl) ⟨Nat.le_of_ble_eq_true rfl, Nat.le_of_ble_eq_true rfl⟩ ⟨Nat.le_of_ble_eq_true rfl, Nat.le_of_ble_eq_true rfl⟩ (fun rh1 vh1 ah1 h1 => ?_)
      obtain ⟨rfl, rfl, rfl⟩ := h1
      refine m_st (st2 := [.int (iI n)]) rfl ?_
      exact m_iret C dX12_end_35 rfl (Nat.le_of_ble_eq_true rfl) (Nat.le_of_ble_eq_true rfl) ⟨rfl, fun k n0 n1 n2 => by simp [va_up, n0, n1, n2], (by show 0 ≤ n ∧ n ≤ 3000; omega)⟩
    · refine m_aload_n (j := 0) C dX12_end_18 rfl ?_
      refine m_bipush (z := 6) C dX12_end_19 (by decide) ?_
      refine m_call (mc2 := 0) (ms2 := 0) (As := [.int (iI 6)]) (rest := []) C (M_bad (x := 6)) dX12_end_21 kV_X12_154 rfl ck_13 rfl (Nat.le_of_ble_eq_true rfl) ⟨Nat.le_of_ble_eq_true rfl, Nat.le_of_ble_eq_true rfl⟩ ⟨Nat.le_of_ble_eq_true rfl, Nat.le_of_ble_eq_true rfl⟩ (fun rh2 vh2 ah2 h2 => ?_)
      obtain ⟨rfl, rfl, rfl⟩ := h2
      refine m_st (st2 := [.int (iI (-1))]) rfl ?_
      exact m_iret C dX12_end_24 rfl (Nat.le_of_ble_eq_true rfl) (Nat.le_of_ble_eq_true rfl) ⟨rfl, fun k n0 n1 n2 => by simp [va_up, n0, n1, n2], hv⟩
  · refine m_aload_n (j := 0) C dX12_end_4 rfl ?_
    refine m_iconst C dX12_end_5 ?_
    refine m_call (mc2 := 0) (ms2 := 0) (As := [.int (iI 5)]) (rest := []) C (M_bad (x := 5)) dX12_end_6 kV_X12_154 rfl ck_13 rfl (Nat.le_of_ble_eq_true rfl) ⟨Nat.le_of_ble_eq_true rfl, Nat.le_of_ble_eq_true rfl⟩ ⟨Nat.le_of_ble_eq_true rfl, Nat.le_of_ble_eq_true rfl⟩ (fun rh3 vh3 ah3 h3 => ?_)
    obtain ⟨rfl, rfl, rfl⟩ := h3
    refine m_st (st2 := [.int (iI (-1))]) rfl ?_
    exact m_iret C dX12_end_9 rfl (Nat.le_of_ble_eq_true rfl) (Nat.le_of_ble_eq_true rfl) ⟨rfl, fun k n0 n1 n2 => by simp [va_up, n0, n1, n2], hv⟩
set_option maxHeartbeats 4000000 in
set_option maxRecDepth 100000 in
theorem M_lines {l : Launch} {G : GT} {h0 : Nat} {ad ln : Nat → Nat} {v : Nat → Int} {a : Nat → Nat → Int}  : Mm l G yX12_lines cX12_lines 1 (some .int) 0 [] h0 ad ln v a 0 0 (fun r v2 a2 => r = some (.int (iI (v 36))) ∧ v2 = v ∧ a2 = a) := by
  refine Mm.mk (by decide) (Nat.le_of_ble_eq_true rfl) ?_
  intro p e s m args below meth c A C
  refine m_aload_n (j := 0) C dX12_lines_0 rfl ?_
  refine m_get (k := 36) C dX12_lines_1 w6_95 (by decide) rfl ?_
  exact m_iret C dX12_lines_4 rfl (Nat.le_of_ble_eq_true rfl) (Nat.le_of_ble_eq_true rfl) ⟨rfl, rfl, rfl⟩
set_option maxHeartbeats 4000000 in
set_option maxRecDepth 100000 in
theorem M_copied {l : Launch} {G : GT} {h0 : Nat} {ad ln : Nat → Nat} {v : Nat → Int} {a : Nat → Nat → Int}  : Mm l G yX12_copied cX12_copied 1 (some .int) 0 [] h0 ad ln v a 0 0 (fun r v2 a2 => r = some (.int (iI (v 42))) ∧ v2 = v ∧ a2 = a) := by
  refine Mm.mk (by decide) (Nat.le_of_ble_eq_true rfl) ?_
  intro p e s m args below meth c A C
  refine m_aload_n (j := 0) C dX12_copied_0 rfl ?_
  refine m_get (k := 42) C dX12_copied_1 w6_101 (by decide) rfl ?_
  exact m_iret C dX12_copied_4 rfl (Nat.le_of_ble_eq_true rfl) (Nat.le_of_ble_eq_true rfl) ⟨rfl, rfl, rfl⟩
set_option maxHeartbeats 4000000 in
set_option maxRecDepth 100000 in
theorem M_closed {l : Launch} {G : GT} {h0 : Nat} {ad ln : Nat → Nat} {v : Nat → Int} {a : Nat → Nat → Int}  : Mm l G yX12_closed cX12_closed 1 (some .int) 0 [] h0 ad ln v a 0 0 (fun r v2 a2 => r = some (.int (iI (v 43))) ∧ v2 = v ∧ a2 = a) := by
  refine Mm.mk (by decide) (Nat.le_of_ble_eq_true rfl) ?_
  intro p e s m args below meth c A C
  refine m_aload_n (j := 0) C dX12_closed_0 rfl ?_
  refine m_get (k := 43) C dX12_closed_1 w6_102 (by decide) rfl ?_
  exact m_iret C dX12_closed_4 rfl (Nat.le_of_ble_eq_true rfl) (Nat.le_of_ble_eq_true rfl) ⟨rfl, rfl, rfl⟩
set_option maxHeartbeats 4000000 in
set_option maxRecDepth 100000 in
theorem M_more {l : Launch} {G : GT} {h0 : Nat} {ad ln : Nat → Nat} {v : Nat → Int} {a : Nat → Nat → Int}  : Mm l G yX12_more cX12_more 1 (some .int) 0 [] h0 ad ln v a 0 0 (fun r v2 a2 => r = some (.int (iI (v 61))) ∧ v2 = v ∧ a2 = a) := by
  refine Mm.mk (by decide) (Nat.le_of_ble_eq_true rfl) ?_
  intro p e s m args below meth c A C
  refine m_aload_n (j := 0) C dX12_more_0 rfl ?_
  refine m_get (k := 61) C dX12_more_1 w6_120 (by decide) rfl ?_
  exact m_iret C dX12_more_4 rfl (Nat.le_of_ble_eq_true rfl) (Nat.le_of_ble_eq_true rfl) ⟨rfl, rfl, rfl⟩
set_option maxHeartbeats 4000000 in
set_option maxRecDepth 100000 in
theorem M_place {l : Launch} {G : GT} {h0 : Nat} {ad ln : Nat → Nat} {v : Nat → Int} {a : Nat → Nat → Int}  : Mm l G yX12_place cX12_place 1 (some .int) 0 [] h0 ad ln v a 0 0 (fun r v2 a2 => r = some (.int (iI (v 1))) ∧ v2 = v ∧ a2 = a) := by
  refine Mm.mk (by decide) (Nat.le_of_ble_eq_true rfl) ?_
  intro p e s m args below meth c A C
  refine m_aload_n (j := 0) C dX12_place_0 rfl ?_
  refine m_get (k := 1) C dX12_place_1 w6_60 (by decide) rfl ?_
  exact m_iret C dX12_place_4 rfl (Nat.le_of_ble_eq_true rfl) (Nat.le_of_ble_eq_true rfl) ⟨rfl, rfl, rfl⟩
set_option maxHeartbeats 4000000 in
set_option maxRecDepth 100000 in
theorem M_status {l : Launch} {G : GT} {h0 : Nat} {ad ln : Nat → Nat} {v : Nat → Int} {a : Nat → Nat → Int}  : Mm l G yX12_status cX12_status 1 (some .int) 0 [] h0 ad ln v a 0 0 (fun r v2 a2 => r = some (.int (iI (v 0))) ∧ v2 = v ∧ a2 = a) := by
  refine Mm.mk (by decide) (Nat.le_of_ble_eq_true rfl) ?_
  intro p e s m args below meth c A C
  refine m_aload_n (j := 0) C dX12_status_0 rfl ?_
  refine m_get (k := 0) C dX12_status_1 w6_59 (by decide) rfl ?_
  exact m_iret C dX12_status_4 rfl (Nat.le_of_ble_eq_true rfl) (Nat.le_of_ble_eq_true rfl) ⟨rfl, rfl, rfl⟩
