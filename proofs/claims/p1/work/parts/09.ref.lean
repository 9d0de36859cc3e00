set_option maxHeartbeats 4000000 in
set_option maxRecDepth 100000 in
theorem m_isIn {l : Launch} {G : GT} {L : List Nat} {E : Nat → va_E} (x lo hi : Int32)    : Mq l G yX12_isIn cX12_isIn 3 (some .boolean) 0 [.int x, .int lo, .int hi] L E 0 0 (fun v L2 E2 => v = some (.int (inn x lo hi)) ∧ L2 = L ∧ E2 = E) := by
  refine Mq.mk (by decide) (Nat.le_of_ble_eq_true rfl) ?_
  intro p e s m args below meth c A C
  refine q_iload_n (j := 0) C dX12_isIn_0 rfl ?_
  refine q_iload_n (j := 1) C dX12_isIn_1 rfl ?_
  refine q_icmp_lt (tgt := 14) C dX12_isIn_2 (by decide) (fun c1 => ?_) (fun c1 => ?_)
  · refine q_iconst (v := 0) C dX12_isIn_14 (by decide) ?_
    exact q_zret C dX12_isIn_15 rfl (by decide) (Nat.le_of_ble_eq_true rfl) (Nat.le_of_ble_eq_true rfl) ⟨(by refine congrArg (fun z => some (Value.int z)) ?_; unfold inn; (try simp only [inn_f, Decidable.not_not] at c1); (try simp only [i32_lt, i32_le, i32_eq, inn_f, Decidable.not_not, tn_m1, tn_0, tn_1, tn_2, tn_3, tn_4, tn_5, tn_6, tn_7, tn_8, tn_10, tn_30, tn_31, tn_32, tn_36, tn_40, tn_50, tn_100, tn_126, tn_200, tn_255, tn_500, tn_512, tn_3000, tn_5000] at c1); split <;> rename_i hz <;> (try simp only [i32_lt, i32_le, i32_eq, inn_f, Decidable.not_not, tn_m1, tn_0, tn_1, tn_2, tn_3, tn_4, tn_5, tn_6, tn_7, tn_8, tn_10, tn_30, tn_31, tn_32, tn_36, tn_40, tn_50, tn_100, tn_126, tn_200, tn_255, tn_500, tn_512, tn_3000, tn_5000] at hz) <;> first | rfl | (exfalso; omega)), rfl, rfl⟩
  · refine q_iload_n (j := 0) C dX12_isIn_5 rfl ?_
    refine q_iload_n (j := 2) C dX12_isIn_6 rfl ?_
    refine q_icmp_gt (tgt := 14) C dX12_isIn_7 (by decide) (fun c2 => ?_) (fun c2 => ?_)
    · refine q_iconst (v := 0) C dX12_isIn_14 (by decide) ?_
      exact q_zret C dX12_isIn_15 rfl (by decide) (Nat.le_of_ble_eq_true rfl) (Nat.le_of_ble_eq_true rfl) ⟨(by refine congrArg (fun z => some (Value.int z)) ?_; unfold inn; (try simp only [inn_f, Decidable.not_not] at c1); (try simp only [i32_lt, i32_le, i32_eq, inn_f, Decidable.not_not, tn_m1, tn_0, tn_1, tn_2, tn_3, tn_4, tn_5, tn_6, tn_7, tn_8, tn_10, tn_30, tn_31, tn_32, tn_36, tn_40, tn_50, tn_100, tn_126, tn_200, tn_255, tn_500, tn_512, tn_3000, tn_5000] at c1); (try simp only [inn_f, Decidable.not_not] at c2); (try simp only [i32_lt, i32_le, i32_eq, inn_f, Decidable.not_not, tn_m1, tn_0, tn_1, tn_2, tn_3, tn_4, tn_5, tn_6, tn_7, tn_8, tn_10, tn_30, tn_31, tn_32, tn_36, tn_40, tn_50, tn_100, tn_126, tn_200, tn_255, tn_500, tn_512, tn_3000, tn_5000] at c2); split <;> rename_i hz <;> (try simp only [i32_lt, i32_le, i32_eq, inn_f, Decidable.not_not, tn_m1, tn_0, tn_1, tn_2, tn_3, tn_4, tn_5, tn_6, tn_7, tn_8, tn_10, tn_30, tn_31, tn_32, tn_36, tn_40, tn_50, tn_100, tn_126, tn_200, tn_255, tn_500, tn_512, tn_3000, tn_5000] at hz) <;> first | rfl | (exfalso; omega)), rfl, rfl⟩
    · refine q_iconst (v := 1) C dX12_isIn_10 (by decide) ?_
      refine q_goto (tgt := 15) C dX12_isIn_11 (by decide) ?_
      exact q_zret C dX12_isIn_15 rfl (by decide) (Nat.le_of_ble_eq_true rfl) (Nat.le_of_ble_eq_true rfl) ⟨(by refine congrArg (fun z => some (Value.int z)) ?_; unfold inn; (try simp only [inn_f, Decidable.not_not] at c1); (try simp only [i32_lt, i32_le, i32_eq, inn_f, Decidable.not_not, tn_m1, tn_0, tn_1, tn_2, tn_3, tn_4, tn_5, tn_6, tn_7, tn_8, tn_10, tn_30, tn_31, tn_32, tn_36, tn_40, tn_50, tn_100, tn_126, tn_200, tn_255, tn_500, tn_512, tn_3000, tn_5000] at c1); (try simp only [inn_f, Decidable.not_not] at c2); (try simp only [i32_lt, i32_le, i32_eq, inn_f, Decidable.not_not, tn_m1, tn_0, tn_1, tn_2, tn_3, tn_4, tn_5, tn_6, tn_7, tn_8, tn_10, tn_30, tn_31, tn_32, tn_36, tn_40, tn_50, tn_100, tn_126, tn_200, tn_255, tn_500, tn_512, tn_3000, tn_5000] at c2); split <;> rename_i hz <;> (try simp only [i32_lt, i32_le, i32_eq, inn_f, Decidable.not_not, tn_m1, tn_0, tn_1, tn_2, tn_3, tn_4, tn_5, tn_6, tn_7, tn_8, tn_10, tn_30, tn_31, tn_32, tn_36, tn_40, tn_50, tn_100, tn_126, tn_200, tn_255, tn_500, tn_512, tn_3000, tn_5000] at hz) <;> first | rfl | (exfalso; omega)), rfl, rfl⟩
theorem inn0 (x : Int32) : inn x 0 (-1) = 0 := by
  rw [inn_f]; simp only [i32_lt, i32_le, i32_eq, inn_f, Decidable.not_not, tn_m1, tn_0, tn_1, tn_2, tn_3, tn_4, tn_5, tn_6, tn_7, tn_8, tn_10, tn_30, tn_31, tn_32, tn_36, tn_40, tn_50, tn_100, tn_126, tn_200, tn_255, tn_500, tn_512, tn_3000, tn_5000]; omega
set_option maxHeartbeats 4000000 in
set_option maxRecDepth 100000 in
theorem m_isTable {l : Launch} {G : GT} {L : List Nat} {E : Nat → va_E} (t : Int32)  {h0 : Nat} {f : Nat → Value} (hL : h0 ∈ L) (hE : E h0 = ob 13 67 f) (f4 : f 4 = .int 0) : Mq l G yX12_isTable cX12_isTable 2 (some .boolean) 0 [.ref h0, .int t] L E 0 0 (fun v L2 E2 => v = some (.int 0) ∧ L2 = L ∧ E2 = E) := by
  refine Mq.mk (by decide) (Nat.le_of_ble_eq_true rfl) ?_
  intro p e s m args below meth c A C
  refine q_iload_n (j := 1) C dX12_isTable_0 rfl ?_
  refine q_if_lt (tgt := 25) C dX12_isTable_1 (by decide) (fun c1 => ?_) (fun c1 => ?_)
  · refine q_iconst (v := 0) C dX12_isTable_25 (by decide) ?_
    exact q_zret C dX12_isTable_26 rfl (by decide) (Nat.le_of_ble_eq_true rfl) (Nat.le_of_ble_eq_true rfl) ⟨rfl, rfl, rfl⟩
  · refine q_iload_n (j := 1) C dX12_isTable_4 rfl ?_
    refine q_aload_n (j := 0) C dX12_isTable_5 rfl ?_
    refine q_get (k := 4) (v := .int 0) C ck_13 dX12_isTable_6 w6_63 (by decide) hL hE f4 ?_
    refine q_icmp_ge (tgt := 25) C dX12_isTable_9 (by decide) (fun _ => ?_) (fun z => absurd (by have hz := c1; simp only [i32_lt, i32_le, i32_eq, inn_f, Decidable.not_not, tn_m1, tn_0, tn_1, tn_2, tn_3, tn_4, tn_5, tn_6, tn_7, tn_8, tn_10, tn_30, tn_31, tn_32, tn_36, tn_40, tn_50, tn_100, tn_126, tn_200, tn_255, tn_500, tn_512, tn_3000, tn_5000] at hz ⊢; omega) z)
    refine q_iconst (v := 0) C dX12_isTable_25 (by decide) ?_
    exact q_zret C dX12_isTable_26 rfl (by decide) (Nat.le_of_ble_eq_true rfl) (Nat.le_of_ble_eq_true rfl) ⟨rfl, rfl, rfl⟩
set_option maxHeartbeats 4000000 in
set_option maxRecDepth 100000 in
theorem m_isWhole {l : Launch} {G : GT} {L : List Nat} {E : Nat → va_E} (t : Int32)  {h0 : Nat} {f : Nat → Value} (hL : h0 ∈ L) (hE : E h0 = ob 13 67 f) (f4 : f 4 = .int 0) : Mq l G yX12_isWhole cX12_isWhole 2 (some .boolean) 1 [.ref h0, .int t] L E 0 0 (fun v L2 E2 => v = some (.int 0) ∧ L2 = L ∧ E2 = E) := by
  refine Mq.mk (by decide) (Nat.le_of_ble_eq_true rfl) ?_
  intro p e s m args below meth c A C
  refine q_aload_n (j := 0) C dX12_isWhole_0 rfl ?_
  refine q_iload_n (j := 1) C dX12_isWhole_1 rfl ?_
  refine q_callV (d2 := 0) (mc2 := 0) (ms2 := 0) (As := [.int t]) (rest := []) C (m_isTable (f := f) t hL hE f4) dX12_isWhole_2 kV_X12_167 rfl hL hE ck_13 rfl (Nat.le_of_ble_eq_true rfl) ⟨Nat.le_of_ble_eq_true rfl, Nat.le_of_ble_eq_true rfl⟩ ⟨Nat.le_of_ble_eq_true rfl, Nat.le_of_ble_eq_true rfl⟩ (fun vh1 Lh1 Eh1 h1 => ?_)
  obtain ⟨rfl, rfl, rfl⟩ := h1
  refine q_st (st2 := [.int 0]) rfl ?_
  refine q_if_ne (tgt := 10) C dX12_isWhole_5 (by decide) (fun z => absurd (by decide) z) (fun _ => ?_)
  refine q_iconst (v := 0) C dX12_isWhole_8 (by decide) ?_
  exact q_zret C dX12_isWhole_9 rfl (by decide) (Nat.le_of_ble_eq_true rfl) (Nat.le_of_ble_eq_true rfl) ⟨rfl, rfl, rfl⟩
set_option maxHeartbeats 4000000 in
set_option maxRecDepth 100000 in
theorem m_hasHead {l : Launch} {G : GT} {L : List Nat} {E : Nat → va_E}  {h0 : Nat} {f : Nat → Value} (hL : h0 ∈ L) (hE : E h0 = ob 13 67 f) (f41 : f 41 = .int 0) : Mq l G yX12_hasHead cX12_hasHead 1 (some .boolean) 0 [.ref h0] L E 0 0 (fun v L2 E2 => v = some (.int 0) ∧ L2 = L ∧ E2 = E) := by
  refine Mq.mk (by decide) (Nat.le_of_ble_eq_true rfl) ?_
  intro p e s m args below meth c A C
  refine q_aload_n (j := 0) C dX12_hasHead_0 rfl ?_
  refine q_get (k := 41) (v := .int 0) C ck_13 dX12_hasHead_1 w6_100 (by decide) hL hE f41 ?_
  refine q_if_le (tgt := 19) C dX12_hasHead_4 (by decide) (fun _ => ?_) (fun z => absurd (by decide) z)
  refine q_iconst (v := 0) C dX12_hasHead_19 (by decide) ?_
  exact q_zret C dX12_hasHead_20 rfl (by decide) (Nat.le_of_ble_eq_true rfl) (Nat.le_of_ble_eq_true rfl) ⟨rfl, rfl, rfl⟩
set_option maxHeartbeats 4000000 in
set_option maxRecDepth 100000 in
theorem m_onPage {l : Launch} {G : GT} {L : List Nat} {E : Nat → va_E}  {h0 : Nat} {f : Nat → Value} (hL : h0 ∈ L) (hE : E h0 = ob 13 67 f) (f32 : f 32 = .int 25) (f41 : f 41 = .int 0) : Mq l G yX12_onPage cX12_onPage 1 (some .int) 1 [.ref h0] L E 0 0 (fun v L2 E2 => v = some (.int 25) ∧ L2 = L ∧ E2 = E) := by
  refine Mq.mk (by decide) (Nat.le_of_ble_eq_true rfl) ?_
  intro p e s m args below meth c A C
  refine q_aload_n (j := 0) C dX12_onPage_0 rfl ?_
  refine q_callV (d2 := 0) (mc2 := 0) (ms2 := 0) (As := []) (rest := []) C (m_hasHead (f := f)  hL hE f41) dX12_onPage_1 kV_X12_288 rfl hL hE ck_13 rfl (Nat.le_of_ble_eq_true rfl) ⟨Nat.le_of_ble_eq_true rfl, Nat.le_of_ble_eq_true rfl⟩ ⟨Nat.le_of_ble_eq_true rfl, Nat.le_of_ble_eq_true rfl⟩ (fun vh1 Lh1 Eh1 h1 => ?_)
  obtain ⟨rfl, rfl, rfl⟩ := h1
  refine q_st (st2 := [.int 0]) rfl ?_
  refine q_if_eq (tgt := 16) C dX12_onPage_4 (by decide) (fun _ => ?_) (fun z => absurd (by decide) z)
  refine q_aload_n (j := 0) C dX12_onPage_16 rfl ?_
  refine q_get (k := 32) (v := .int 25) C ck_13 dX12_onPage_17 w6_91 (by decide) hL hE f32 ?_
  exact q_iret C dX12_onPage_20 rfl (Nat.le_of_ble_eq_true rfl) (Nat.le_of_ble_eq_true rfl) ⟨rfl, rfl, rfl⟩
set_option maxHeartbeats 4000000 in
set_option maxRecDepth 100000 in
theorem m_lineFault {l : Launch} {G : GT} {L : List Nat} {E : Nat → va_E} (l0 : Int32)  {h0 : Nat} {f : Nat → Value} (hL : h0 ∈ L) (hE : E h0 = ob 13 67 f) (f36 : f 36 = .int 0) : Mq l G yX12_lineFault cX12_lineFault 2 (some .int) 1 [.ref h0, .int l0] L E 0 0 (fun v L2 E2 => v = some (.int 2) ∧ L2 = L ∧ E2 = E) := by
  refine Mq.mk (by decide) (Nat.le_of_ble_eq_true rfl) ?_
  intro p e s m args below meth c A C
  refine q_iload_n (j := 1) C dX12_lineFault_0 rfl ?_
  refine q_iconst (v := 0) C dX12_lineFault_1 (by decide) ?_
  refine q_aload_n (j := 0) C dX12_lineFault_2 rfl ?_
  refine q_get (k := 36) (v := .int 0) C ck_13 dX12_lineFault_3 w6_95 (by decide) hL hE f36 ?_
  refine q_iconst (v := 1) C dX12_lineFault_6 (by decide) ?_
  refine q_isub (v := (-1)) C dX12_lineFault_7 (by decide) ?_
  refine q_callS (d2 := 0) (mc2 := 0) (ms2 := 0) (As := [.int l0, .int 0, .int (-1)]) (rest := []) C (m_isIn l0 0 (-1)) dX12_lineFault_8 kS_X12_174 rfl rfl (Nat.le_of_ble_eq_true rfl) ⟨Nat.le_of_ble_eq_true rfl, Nat.le_of_ble_eq_true rfl⟩ ⟨Nat.le_of_ble_eq_true rfl, Nat.le_of_ble_eq_true rfl⟩ (fun vh1 Lh1 Eh1 h1 => ?_)
  obtain ⟨rfl, rfl, rfl⟩ := h1
  refine q_st (st2 := [.int (inn l0 0 (-1))]) rfl ?_
  refine q_if_ne (tgt := 18) C dX12_lineFault_11 (by decide) (fun z => absurd (inn0 _) z) (fun _ => ?_)
  refine q_iconst (v := 2) C dX12_lineFault_14 (by decide) ?_
  refine q_goto (tgt := 32) C dX12_lineFault_15 (by decide) ?_
  exact q_iret C dX12_lineFault_32 rfl (Nat.le_of_ble_eq_true rfl) (Nat.le_of_ble_eq_true rfl) ⟨rfl, rfl, rfl⟩
set_option maxHeartbeats 4000000 in
set_option maxRecDepth 100000 in
theorem m_taken {l : Launch} {G : GT} {L : List Nat} {E : Nat → va_E}  {h0 : Nat} {f : Nat → Value} (hL : h0 ∈ L) (hE : E h0 = ob 13 67 f) (f3 : f 3 = .int 0) : Mq l G yX12_taken cX12_taken 2 (some .int) 0 [.ref h0] L E 0 0 (fun v L2 E2 => v = some (.int 0) ∧ L2 = L ∧ E2 = va_up E h0 (ob 13 67 (va_up f 3 (.int 0)))) := by
  refine Mq.mk (by decide) (Nat.le_of_ble_eq_true rfl) ?_
  intro p e s m args below meth c A C
  refine q_aload_n (j := 0) C dX12_taken_0 rfl ?_
  refine q_get (k := 3) (v := .int 0) C ck_13 dX12_taken_1 w6_62 (by decide) hL hE f3 ?_
  refine q_istore_n (lv2 := [(1, .int 0), (0, .ref h0)]) C dX12_taken_4 (by decide) rfl ?_
  refine q_aload_n (j := 1) C dX12_taken_5 rfl ?_
  refine q_iconst (v := 0) C dX12_taken_6 (by decide) ?_
  refine q_put (k := 3) C ck_13 dX12_taken_7 w6_62 (by decide) rfl hL hE rfl rfl ?_
  refine q_iload_n (j := 0) C dX12_taken_10 rfl ?_
  exact q_iret C dX12_taken_11 rfl (Nat.le_of_ble_eq_true rfl) (Nat.le_of_ble_eq_true rfl) ⟨rfl, rfl, rfl⟩
set_option maxHeartbeats 4000000 in
set_option maxRecDepth 100000 in
theorem m_place {l : Launch} {G : GT} {L : List Nat} {E : Nat → va_E}  {h0 : Nat} {f : Nat → Value} (hL : h0 ∈ L) (hE : E h0 = ob 13 67 f) (f1 : f 1 = .int (-1)) : Mq l G yX12_place cX12_place 1 (some .int) 4 [.ref h0] L E 0 0 (fun v L2 E2 => v = some (.int (-1))) := by
  refine Mq.mk (by decide) (Nat.le_of_ble_eq_true rfl) ?_
  intro p e s m args below meth c A C
  refine q_aload_n (j := 0) C dX12_place_0 rfl ?_
  refine q_get (k := 1) (v := .int (-1)) C ck_13 dX12_place_1 w6_60 (by decide) hL hE f1 ?_
  exact q_iret C dX12_place_4 rfl (Nat.le_of_ble_eq_true rfl) (Nat.le_of_ble_eq_true rfl) rfl
set_option maxHeartbeats 4000000 in
set_option maxRecDepth 100000 in
theorem m_status {l : Launch} {G : GT} {L : List Nat} {E : Nat → va_E}  {h0 : Nat} {f : Nat → Value} (hL : h0 ∈ L) (hE : E h0 = ob 13 67 f) (f0 : f 0 = .int 0) : Mq l G yX12_status cX12_status 1 (some .int) 4 [.ref h0] L E 0 0 (fun v L2 E2 => v = some (.int 0)) := by
  refine Mq.mk (by decide) (Nat.le_of_ble_eq_true rfl) ?_
  intro p e s m args below meth c A C
  refine q_aload_n (j := 0) C dX12_status_0 rfl ?_
  refine q_get (k := 0) (v := .int 0) C ck_13 dX12_status_1 w6_59 (by decide) hL hE f0 ?_
  exact q_iret C dX12_status_4 rfl (Nat.le_of_ble_eq_true rfl) (Nat.le_of_ble_eq_true rfl) rfl
set_option maxHeartbeats 4000000 in
set_option maxRecDepth 100000 in
theorem m_closed {l : Launch} {G : GT} {L : List Nat} {E : Nat → va_E}  {h0 : Nat} {f : Nat → Value} (hL : h0 ∈ L) (hE : E h0 = ob 13 67 f) (f43 : f 43 = .int 0) : Mq l G yX12_closed cX12_closed 1 (some .int) 4 [.ref h0] L E 0 0 (fun v L2 E2 => v = some (.int 0)) := by
  refine Mq.mk (by decide) (Nat.le_of_ble_eq_true rfl) ?_
  intro p e s m args below meth c A C
  refine q_aload_n (j := 0) C dX12_closed_0 rfl ?_
  refine q_get (k := 43) (v := .int 0) C ck_13 dX12_closed_1 w6_102 (by decide) hL hE f43 ?_
  exact q_iret C dX12_closed_4 rfl (Nat.le_of_ble_eq_true rfl) (Nat.le_of_ble_eq_true rfl) rfl
set_option maxHeartbeats 4000000 in
set_option maxRecDepth 100000 in
theorem m_copied {l : Launch} {G : GT} {L : List Nat} {E : Nat → va_E}  {h0 : Nat} {f : Nat → Value} (hL : h0 ∈ L) (hE : E h0 = ob 13 67 f) (f42 : f 42 = .int 0) : Mq l G yX12_copied cX12_copied 1 (some .int) 4 [.ref h0] L E 0 0 (fun v L2 E2 => v = some (.int 0)) := by
  refine Mq.mk (by decide) (Nat.le_of_ble_eq_true rfl) ?_
  intro p e s m args below meth c A C
  refine q_aload_n (j := 0) C dX12_copied_0 rfl ?_
  refine q_get (k := 42) (v := .int 0) C ck_13 dX12_copied_1 w6_101 (by decide) hL hE f42 ?_
  exact q_iret C dX12_copied_4 rfl (Nat.le_of_ble_eq_true rfl) (Nat.le_of_ble_eq_true rfl) rfl
set_option maxHeartbeats 4000000 in
set_option maxRecDepth 100000 in
theorem m_lines {l : Launch} {G : GT} {L : List Nat} {E : Nat → va_E}  {h0 : Nat} {f : Nat → Value} (hL : h0 ∈ L) (hE : E h0 = ob 13 67 f) (f36 : f 36 = .int 0) : Mq l G yX12_lines cX12_lines 1 (some .int) 4 [.ref h0] L E 0 0 (fun v L2 E2 => v = some (.int 0)) := by
  refine Mq.mk (by decide) (Nat.le_of_ble_eq_true rfl) ?_
  intro p e s m args below meth c A C
  refine q_aload_n (j := 0) C dX12_lines_0 rfl ?_
  refine q_get (k := 36) (v := .int 0) C ck_13 dX12_lines_1 w6_95 (by decide) hL hE f36 ?_
  exact q_iret C dX12_lines_4 rfl (Nat.le_of_ble_eq_true rfl) (Nat.le_of_ble_eq_true rfl) rfl
set_option maxHeartbeats 4000000 in
set_option maxRecDepth 100000 in
theorem m_more {l : Launch} {G : GT} {L : List Nat} {E : Nat → va_E}  {h0 : Nat} {f : Nat → Value} (hL : h0 ∈ L) (hE : E h0 = ob 13 67 f) (f61 : f 61 = .int 0) : Mq l G yX12_more cX12_more 1 (some .int) 4 [.ref h0] L E 0 0 (fun v L2 E2 => v = some (.int 0)) := by
  refine Mq.mk (by decide) (Nat.le_of_ble_eq_true rfl) ?_
  intro p e s m args below meth c A C
  refine q_aload_n (j := 0) C dX12_more_0 rfl ?_
  refine q_get (k := 61) (v := .int 0) C ck_13 dX12_more_1 w6_120 (by decide) hL hE f61 ?_
  exact q_iret C dX12_more_4 rfl (Nat.le_of_ble_eq_true rfl) (Nat.le_of_ble_eq_true rfl) rfl
set_option maxHeartbeats 4000000 in
set_option maxRecDepth 100000 in
theorem m_pages {l : Launch} {G : GT} {L : List Nat} {E : Nat → va_E}  {h0 : Nat} {f : Nat → Value} (hL : h0 ∈ L) (hE : E h0 = ob 13 67 f) (f32 : f 32 = .int 25) (f36 : f 36 = .int 0) (f41 : f 41 = .int 0) : Mq l G yX12_pages cX12_pages 1 (some .int) 3 [.ref h0] L E 0 0 (fun v L2 E2 => v = some (.int 0) ∧ L2 = L ∧ E2 = E) := by
  refine Mq.mk (by decide) (Nat.le_of_ble_eq_true rfl) ?_
  intro p e s m args below meth c A C
  refine q_aload_n (j := 0) C dX12_pages_0 rfl ?_
  refine q_get (k := 36) (v := .int 0) C ck_13 dX12_pages_1 w6_95 (by decide) hL hE f36 ?_
  refine q_aload_n (j := 0) C dX12_pages_4 rfl ?_
  refine q_callV (d2 := 1) (mc2 := 0) (ms2 := 0) (As := []) (rest := [.int 0]) C (m_onPage (f := f)  hL hE f32 f41) dX12_pages_5 kV_X12_291 rfl hL hE ck_13 rfl (Nat.le_of_ble_eq_true rfl) ⟨Nat.le_of_ble_eq_true rfl, Nat.le_of_ble_eq_true rfl⟩ ⟨Nat.le_of_ble_eq_true rfl, Nat.le_of_ble_eq_true rfl⟩ (fun vh1 Lh1 Eh1 h1 => ?_)
  obtain ⟨rfl, rfl, rfl⟩ := h1
  refine q_st (st2 := [.int 25, .int 0]) rfl ?_
  refine q_iadd (v := 25) C dX12_pages_8 (by decide) ?_
  refine q_iconst (v := 1) C dX12_pages_9 (by decide) ?_
  refine q_isub (v := 24) C dX12_pages_10 (by decide) ?_
  refine q_aload_n (j := 0) C dX12_pages_11 rfl ?_
  refine q_callV (d2 := 1) (mc2 := 0) (ms2 := 0) (As := []) (rest := [.int 24]) C (m_onPage (f := f)  hL hE f32 f41) dX12_pages_12 kV_X12_291 rfl hL hE ck_13 rfl (Nat.le_of_ble_eq_true rfl) ⟨Nat.le_of_ble_eq_true rfl, Nat.le_of_ble_eq_true rfl⟩ ⟨Nat.le_of_ble_eq_true rfl, Nat.le_of_ble_eq_true rfl⟩ (fun vh2 Lh2 Eh2 h2 => ?_)
  obtain ⟨rfl, rfl, rfl⟩ := h2
  refine q_st (st2 := [.int 25, .int 24]) rfl ?_
  refine q_idiv (v := 0) C dX12_pages_15 (by decide) (by decide) ?_
  exact q_iret C dX12_pages_16 rfl (Nat.le_of_ble_eq_true rfl) (Nat.le_of_ble_eq_true rfl) ⟨rfl, rfl, rfl⟩
set_option maxHeartbeats 4000000 in
set_option maxRecDepth 100000 in
theorem m_drop {l : Launch} {G : GT} {L : List Nat} {E : Nat → va_E} (t : Int32)  {h0 : Nat} {f : Nat → Value} (hL : h0 ∈ L) (hE : E h0 = ob 13 67 f) (f4 : f 4 = .int 0) : Mq l G yX12_drop cX12_drop 2 (some .int) 4 [.ref h0, .int t] L E 0 0 (fun v L2 E2 => v = some (.int (-1))) := by
  refine Mq.mk (by decide) (Nat.le_of_ble_eq_true rfl) ?_
  intro p e s m args below meth c A C
  refine q_aload_n (j := 0) C dX12_drop_0 rfl ?_
  refine q_iload_n (j := 1) C dX12_drop_1 rfl ?_
  refine q_callV (d2 := 0) (mc2 := 0) (ms2 := 0) (As := [.int t]) (rest := []) C (m_isTable (f := f) t hL hE f4) dX12_drop_2 kV_X12_167 rfl hL hE ck_13 rfl (Nat.le_of_ble_eq_true rfl) ⟨Nat.le_of_ble_eq_true rfl, Nat.le_of_ble_eq_true rfl⟩ ⟨Nat.le_of_ble_eq_true rfl, Nat.le_of_ble_eq_true rfl⟩ (fun vh1 Lh1 Eh1 h1 => ?_)
  obtain ⟨rfl, rfl, rfl⟩ := h1
  refine q_st (st2 := [.int 0]) rfl ?_
  refine q_if_ne (tgt := 14) C dX12_drop_5 (by decide) (fun z => absurd (by decide) z) (fun _ => ?_)
  refine q_aload_n (j := 0) C dX12_drop_8 rfl ?_
  refine q_iconst (v := 3) C dX12_drop_9 (by decide) ?_
  refine q_callV (d2 := 0) (mc2 := 0) (ms2 := 0) (As := [.int 3]) (rest := []) C (c_bad 3 hL hE) dX12_drop_10 kV_X12_154 rfl hL hE ck_13 rfl (Nat.le_of_ble_eq_true rfl) ⟨Nat.le_of_ble_eq_true rfl, Nat.le_of_ble_eq_true rfl⟩ ⟨Nat.le_of_ble_eq_true rfl, Nat.le_of_ble_eq_true rfl⟩ (fun vh2 Lh2 Eh2 h2 => ?_)
  obtain ⟨rfl, rfl, rfl⟩ := h2
  refine q_st (st2 := [.int (-1)]) rfl ?_
  exact q_iret C dX12_drop_13 rfl (Nat.le_of_ble_eq_true rfl) (Nat.le_of_ble_eq_true rfl) rfl
set_option maxHeartbeats 4000000 in
set_option maxRecDepth 100000 in
theorem m_judge {l : Launch} {G : GT} {L : List Nat} {E : Nat → va_E} (t : Int32)  {h0 : Nat} {f : Nat → Value} (hL : h0 ∈ L) (hE : E h0 = ob 13 67 f) (f4 : f 4 = .int 0) : Mq l G yX12_judge cX12_judge 3 (some .int) 4 [.ref h0, .int t] L E 0 0 (fun v L2 E2 => v = some (.int (-1))) := by
  refine Mq.mk (by decide) (Nat.le_of_ble_eq_true rfl) ?_
  intro p e s m args below meth c A C
  refine q_aload_n (j := 0) C dX12_judge_0 rfl ?_
  refine q_iload_n (j := 1) C dX12_judge_1 rfl ?_
  refine q_callV (d2 := 0) (mc2 := 0) (ms2 := 0) (As := [.int t]) (rest := []) C (m_isTable (f := f) t hL hE f4) dX12_judge_2 kV_X12_167 rfl hL hE ck_13 rfl (Nat.le_of_ble_eq_true rfl) ⟨Nat.le_of_ble_eq_true rfl, Nat.le_of_ble_eq_true rfl⟩ ⟨Nat.le_of_ble_eq_true rfl, Nat.le_of_ble_eq_true rfl⟩ (fun vh1 Lh1 Eh1 h1 => ?_)
  obtain ⟨rfl, rfl, rfl⟩ := h1
  refine q_st (st2 := [.int 0]) rfl ?_
  refine q_if_ne (tgt := 14) C dX12_judge_5 (by decide) (fun z => absurd (by decide) z) (fun _ => ?_)
  refine q_aload_n (j := 0) C dX12_judge_8 rfl ?_
  refine q_iconst (v := 3) C dX12_judge_9 (by decide) ?_
  refine q_callV (d2 := 0) (mc2 := 0) (ms2 := 0) (As := [.int 3]) (rest := []) C (c_bad 3 hL hE) dX12_judge_10 kV_X12_154 rfl hL hE ck_13 rfl (Nat.le_of_ble_eq_true rfl) ⟨Nat.le_of_ble_eq_true rfl, Nat.le_of_ble_eq_true rfl⟩ ⟨Nat.le_of_ble_eq_true rfl, Nat.le_of_ble_eq_true rfl⟩ (fun vh2 Lh2 Eh2 h2 => ?_)
  obtain ⟨rfl, rfl, rfl⟩ := h2
  refine q_st (st2 := [.int (-1)]) rfl ?_
  exact q_iret C dX12_judge_13 rfl (Nat.le_of_ble_eq_true rfl) (Nat.le_of_ble_eq_true rfl) rfl
set_option maxHeartbeats 4000000 in
set_option maxRecDepth 100000 in
theorem m_set {l : Launch} {G : GT} {L : List Nat} {E : Nat → va_E} (t : Int32)  {h0 : Nat} {f : Nat → Value} (hL : h0 ∈ L) (hE : E h0 = ob 13 67 f) (f4 : f 4 = .int 0) : Mq l G yX12_set cX12_set 7 (some .int) 4 [.ref h0, .int t] L E 0 0 (fun v L2 E2 => v = some (.int (-1))) := by
  refine Mq.mk (by decide) (Nat.le_of_ble_eq_true rfl) ?_
  intro p e s m args below meth c A C
  refine q_aload_n (j := 0) C dX12_set_0 rfl ?_
  refine q_iload_n (j := 1) C dX12_set_1 rfl ?_
  refine q_callV (d2 := 1) (mc2 := 0) (ms2 := 0) (As := [.int t]) (rest := []) C (m_isWhole (f := f) t hL hE f4) dX12_set_2 kV_X12_171 rfl hL hE ck_13 rfl (Nat.le_of_ble_eq_true rfl) ⟨Nat.le_of_ble_eq_true rfl, Nat.le_of_ble_eq_true rfl⟩ ⟨Nat.le_of_ble_eq_true rfl, Nat.le_of_ble_eq_true rfl⟩ (fun vh1 Lh1 Eh1 h1 => ?_)
  obtain ⟨rfl, rfl, rfl⟩ := h1
  refine q_st (st2 := [.int 0]) rfl ?_
  refine q_if_ne (tgt := 14) C dX12_set_5 (by decide) (fun z => absurd (by decide) z) (fun _ => ?_)
  refine q_aload_n (j := 0) C dX12_set_8 rfl ?_
  refine q_iconst (v := 3) C dX12_set_9 (by decide) ?_
  refine q_callV (d2 := 0) (mc2 := 0) (ms2 := 0) (As := [.int 3]) (rest := []) C (c_bad 3 hL hE) dX12_set_10 kV_X12_154 rfl hL hE ck_13 rfl (Nat.le_of_ble_eq_true rfl) ⟨Nat.le_of_ble_eq_true rfl, Nat.le_of_ble_eq_true rfl⟩ ⟨Nat.le_of_ble_eq_true rfl, Nat.le_of_ble_eq_true rfl⟩ (fun vh2 Lh2 Eh2 h2 => ?_)
  obtain ⟨rfl, rfl, rfl⟩ := h2
  refine q_st (st2 := [.int (-1)]) rfl ?_
  exact q_iret C dX12_set_13 rfl (Nat.le_of_ble_eq_true rfl) (Nat.le_of_ble_eq_true rfl) rfl
set_option maxHeartbeats 4000000 in
set_option maxRecDepth 100000 in
theorem m_join {l : Launch} {G : GT} {L : List Nat} {E : Nat → va_E} (a b : Int32)  {h0 : Nat} {f : Nat → Value} (hL : h0 ∈ L) (hE : E h0 = ob 13 67 f) (f4 : f 4 = .int 0) : Mq l G yX12_join cX12_join 3 (some .int) 4 [.ref h0, .int a, .int b] L E 0 0 (fun v L2 E2 => v = some (.int (-1))) := by
  refine Mq.mk (by decide) (Nat.le_of_ble_eq_true rfl) ?_
  intro p e s m args below meth c A C
  refine q_aload_n (j := 0) C dX12_join_0 rfl ?_
  refine q_iload_n (j := 1) C dX12_join_1 rfl ?_
  refine q_callV (d2 := 0) (mc2 := 0) (ms2 := 0) (As := [.int a]) (rest := []) C (m_isTable (f := f) a hL hE f4) dX12_join_2 kV_X12_167 rfl hL hE ck_13 rfl (Nat.le_of_ble_eq_true rfl) ⟨Nat.le_of_ble_eq_true rfl, Nat.le_of_ble_eq_true rfl⟩ ⟨Nat.le_of_ble_eq_true rfl, Nat.le_of_ble_eq_true rfl⟩ (fun vh1 Lh1 Eh1 h1 => ?_)
  obtain ⟨rfl, rfl, rfl⟩ := h1
  refine q_st (st2 := [.int 0]) rfl ?_
  refine q_if_ne (tgt := 14) C dX12_join_5 (by decide) (fun z => absurd (by decide) z) (fun _ => ?_)
  refine q_aload_n (j := 0) C dX12_join_8 rfl ?_
  refine q_iconst (v := 3) C dX12_join_9 (by decide) ?_
  refine q_callV (d2 := 0) (mc2 := 0) (ms2 := 0) (As := [.int 3]) (rest := []) C (c_bad 3 hL hE) dX12_join_10 kV_X12_154 rfl hL hE ck_13 rfl (Nat.le_of_ble_eq_true rfl) ⟨Nat.le_of_ble_eq_true rfl, Nat.le_of_ble_eq_true rfl⟩ ⟨Nat.le_of_ble_eq_true rfl, Nat.le_of_ble_eq_true rfl⟩ (fun vh2 Lh2 Eh2 h2 => ?_)
  obtain ⟨rfl, rfl, rfl⟩ := h2
  refine q_st (st2 := [.int (-1)]) rfl ?_
  exact q_iret C dX12_join_13 rfl (Nat.le_of_ble_eq_true rfl) (Nat.le_of_ble_eq_true rfl) rfl
set_option maxHeartbeats 4000000 in
set_option maxRecDepth 100000 in
theorem m_condition {l : Launch} {G : GT} {L : List Nat} {E : Nat → va_E} (t r k : Int32)  {h0 : Nat} {f : Nat → Value} (hL : h0 ∈ L) (hE : E h0 = ob 13 67 f) (f4 : f 4 = .int 0) : Mq l G yX12_condition cX12_condition 5 (some .int) 4 [.ref h0, .int t, .int r, .int k] L E 0 0 (fun v L2 E2 => v = some (.int (-1))) := by
  refine Mq.mk (by decide) (Nat.le_of_ble_eq_true rfl) ?_
  intro p e s m args below meth c A C
  refine q_aload_n (j := 0) C dX12_condition_0 rfl ?_
  refine q_iload_n (j := 1) C dX12_condition_1 rfl ?_
  refine q_callV (d2 := 0) (mc2 := 0) (ms2 := 0) (As := [.int t]) (rest := []) C (m_isTable (f := f) t hL hE f4) dX12_condition_2 kV_X12_167 rfl hL hE ck_13 rfl (Nat.le_of_ble_eq_true rfl) ⟨Nat.le_of_ble_eq_true rfl, Nat.le_of_ble_eq_true rfl⟩ ⟨Nat.le_of_ble_eq_true rfl, Nat.le_of_ble_eq_true rfl⟩ (fun vh1 Lh1 Eh1 h1 => ?_)
  obtain ⟨rfl, rfl, rfl⟩ := h1
  refine q_st (st2 := [.int 0]) rfl ?_
  refine q_if_ne (tgt := 14) C dX12_condition_5 (by decide) (fun z => absurd (by decide) z) (fun _ => ?_)
  refine q_aload_n (j := 0) C dX12_condition_8 rfl ?_
  refine q_iconst (v := 3) C dX12_condition_9 (by decide) ?_
  refine q_callV (d2 := 0) (mc2 := 0) (ms2 := 0) (As := [.int 3]) (rest := []) C (c_bad 3 hL hE) dX12_condition_10 kV_X12_154 rfl hL hE ck_13 rfl (Nat.le_of_ble_eq_true rfl) ⟨Nat.le_of_ble_eq_true rfl, Nat.le_of_ble_eq_true rfl⟩ ⟨Nat.le_of_ble_eq_true rfl, Nat.le_of_ble_eq_true rfl⟩ (fun vh2 Lh2 Eh2 h2 => ?_)
  obtain ⟨rfl, rfl, rfl⟩ := h2
  refine q_st (st2 := [.int (-1)]) rfl ?_
  exact q_iret C dX12_condition_13 rfl (Nat.le_of_ble_eq_true rfl) (Nat.le_of_ble_eq_true rfl) rfl
set_option maxHeartbeats 4000000 in
set_option maxRecDepth 100000 in
theorem m_parts {l : Launch} {G : GT} {L : List Nat} {E : Nat → va_E} (t a b : Int32)  {h0 : Nat} {f : Nat → Value} (hL : h0 ∈ L) (hE : E h0 = ob 13 67 f) (f4 : f 4 = .int 0) : Mq l G yX12_parts cX12_parts 5 (some .int) 4 [.ref h0, .int t, .int a, .int b] L E 0 0 (fun v L2 E2 => v = some (.int (-1))) := by
  refine Mq.mk (by decide) (Nat.le_of_ble_eq_true rfl) ?_
  intro p e s m args below meth c A C
  refine q_aload_n (j := 0) C dX12_parts_0 rfl ?_
  refine q_iload_n (j := 1) C dX12_parts_1 rfl ?_
  refine q_callV (d2 := 1) (mc2 := 0) (ms2 := 0) (As := [.int t]) (rest := []) C (m_isWhole (f := f) t hL hE f4) dX12_parts_2 kV_X12_171 rfl hL hE ck_13 rfl (Nat.le_of_ble_eq_true rfl) ⟨Nat.le_of_ble_eq_true rfl, Nat.le_of_ble_eq_true rfl⟩ ⟨Nat.le_of_ble_eq_true rfl, Nat.le_of_ble_eq_true rfl⟩ (fun vh1 Lh1 Eh1 h1 => ?_)
  obtain ⟨rfl, rfl, rfl⟩ := h1
  refine q_st (st2 := [.int 0]) rfl ?_
  refine q_if_ne (tgt := 14) C dX12_parts_5 (by decide) (fun z => absurd (by decide) z) (fun _ => ?_)
  refine q_aload_n (j := 0) C dX12_parts_8 rfl ?_
  refine q_iconst (v := 3) C dX12_parts_9 (by decide) ?_
  refine q_callV (d2 := 0) (mc2 := 0) (ms2 := 0) (As := [.int 3]) (rest := []) C (c_bad 3 hL hE) dX12_parts_10 kV_X12_154 rfl hL hE ck_13 rfl (Nat.le_of_ble_eq_true rfl) ⟨Nat.le_of_ble_eq_true rfl, Nat.le_of_ble_eq_true rfl⟩ ⟨Nat.le_of_ble_eq_true rfl, Nat.le_of_ble_eq_true rfl⟩ (fun vh2 Lh2 Eh2 h2 => ?_)
  obtain ⟨rfl, rfl, rfl⟩ := h2
  refine q_st (st2 := [.int (-1)]) rfl ?_
  exact q_iret C dX12_parts_13 rfl (Nat.le_of_ble_eq_true rfl) (Nat.le_of_ble_eq_true rfl) rfl
set_option maxHeartbeats 4000000 in
set_option maxRecDepth 100000 in
theorem m_read {l : Launch} {G : GT} {L : List Nat} {E : Nat → va_E} (t a n : Int32)  {h0 : Nat} {f : Nat → Value} (hL : h0 ∈ L) (hE : E h0 = ob 13 67 f) (f4 : f 4 = .int 0) : Mq l G yX12_read cX12_read 11 (some .int) 4 [.ref h0, .int t, .int a, .int n] L E 0 0 (fun v L2 E2 => v = some (.int (-1))) := by
  refine Mq.mk (by decide) (Nat.le_of_ble_eq_true rfl) ?_
  intro p e s m args below meth c A C
  refine q_aload_n (j := 0) C dX12_read_0 rfl ?_
  refine q_iload_n (j := 1) C dX12_read_1 rfl ?_
  refine q_callV (d2 := 1) (mc2 := 0) (ms2 := 0) (As := [.int t]) (rest := []) C (m_isWhole (f := f) t hL hE f4) dX12_read_2 kV_X12_171 rfl hL hE ck_13 rfl (Nat.le_of_ble_eq_true rfl) ⟨Nat.le_of_ble_eq_true rfl, Nat.le_of_ble_eq_true rfl⟩ ⟨Nat.le_of_ble_eq_true rfl, Nat.le_of_ble_eq_true rfl⟩ (fun vh1 Lh1 Eh1 h1 => ?_)
  obtain ⟨rfl, rfl, rfl⟩ := h1
  refine q_st (st2 := [.int 0]) rfl ?_
  refine q_if_ne (tgt := 14) C dX12_read_5 (by decide) (fun z => absurd (by decide) z) (fun _ => ?_)
  refine q_aload_n (j := 0) C dX12_read_8 rfl ?_
  refine q_iconst (v := 3) C dX12_read_9 (by decide) ?_
  refine q_callV (d2 := 0) (mc2 := 0) (ms2 := 0) (As := [.int 3]) (rest := []) C (c_bad 3 hL hE) dX12_read_10 kV_X12_154 rfl hL hE ck_13 rfl (Nat.le_of_ble_eq_true rfl) ⟨Nat.le_of_ble_eq_true rfl, Nat.le_of_ble_eq_true rfl⟩ ⟨Nat.le_of_ble_eq_true rfl, Nat.le_of_ble_eq_true rfl⟩ (fun vh2 Lh2 Eh2 h2 => ?_)
  obtain ⟨rfl, rfl, rfl⟩ := h2
  refine q_st (st2 := [.int (-1)]) rfl ?_
  exact q_iret C dX12_read_13 rfl (Nat.le_of_ble_eq_true rfl) (Nat.le_of_ble_eq_true rfl) rfl
set_option maxHeartbeats 4000000 in
set_option maxRecDepth 100000 in
theorem m_saved {l : Launch} {G : GT} {L : List Nat} {E : Nat → va_E} (a b : Int32)  {h0 : Nat} {f : Nat → Value} (hL : h0 ∈ L) (hE : E h0 = ob 13 67 f) (f4 : f 4 = .int 0) : Mq l G yX12_saved cX12_saved 8 (some .int) 4 [.ref h0, .int a, .int b] L E 0 0 (fun v L2 E2 => v = some (.int (-1))) := by
  refine Mq.mk (by decide) (Nat.le_of_ble_eq_true rfl) ?_
  intro p e s m args below meth c A C
  refine q_aload_n (j := 0) C dX12_saved_0 rfl ?_
  refine q_iload_n (j := 1) C dX12_saved_1 rfl ?_
  refine q_callV (d2 := 1) (mc2 := 0) (ms2 := 0) (As := [.int a]) (rest := []) C (m_isWhole (f := f) a hL hE f4) dX12_saved_2 kV_X12_171 rfl hL hE ck_13 rfl (Nat.le_of_ble_eq_true rfl) ⟨Nat.le_of_ble_eq_true rfl, Nat.le_of_ble_eq_true rfl⟩ ⟨Nat.le_of_ble_eq_true rfl, Nat.le_of_ble_eq_true rfl⟩ (fun vh1 Lh1 Eh1 h1 => ?_)
  obtain ⟨rfl, rfl, rfl⟩ := h1
  refine q_st (st2 := [.int 0]) rfl ?_
  refine q_if_eq (tgt := 16) C dX12_saved_5 (by decide) (fun _ => ?_) (fun z => absurd (by decide) z)
  refine q_aload_n (j := 0) C dX12_saved_16 rfl ?_
  refine q_iconst (v := 3) C dX12_saved_17 (by decide) ?_
  refine q_callV (d2 := 0) (mc2 := 0) (ms2 := 0) (As := [.int 3]) (rest := []) C (c_bad 3 hL hE) dX12_saved_18 kV_X12_154 rfl hL hE ck_13 rfl (Nat.le_of_ble_eq_true rfl) ⟨Nat.le_of_ble_eq_true rfl, Nat.le_of_ble_eq_true rfl⟩ ⟨Nat.le_of_ble_eq_true rfl, Nat.le_of_ble_eq_true rfl⟩ (fun vh2 Lh2 Eh2 h2 => ?_)
  obtain ⟨rfl, rfl, rfl⟩ := h2
  refine q_st (st2 := [.int (-1)]) rfl ?_
  exact q_iret C dX12_saved_21 rfl (Nat.le_of_ble_eq_true rfl) (Nat.le_of_ble_eq_true rfl) rfl
set_option maxHeartbeats 4000000 in
set_option maxRecDepth 100000 in
theorem m_undo {l : Launch} {G : GT} {L : List Nat} {E : Nat → va_E}  {h0 : Nat} {f : Nat → Value} (hL : h0 ∈ L) (hE : E h0 = ob 13 67 f) (f19 : f 19 = .int 0) : Mq l G yX12_undo cX12_undo 5 (some .int) 4 [.ref h0] L E 0 0 (fun v L2 E2 => v = some (.int 0)) := by
  refine Mq.mk (by decide) (Nat.le_of_ble_eq_true rfl) ?_
  intro p e s m args below meth c A C
  refine q_aload_n (j := 0) C dX12_undo_0 rfl ?_
  refine q_get (k := 19) (v := .int 0) C ck_13 dX12_undo_1 w6_78 (by decide) hL hE f19 ?_
  refine q_if_ne (tgt := 13) C dX12_undo_4 (by decide) (fun z => absurd (by decide) z) (fun _ => ?_)
  refine q_aload_n (j := 0) C dX12_undo_7 rfl ?_
  refine q_iconst (v := 0) C dX12_undo_8 (by decide) ?_
  refine q_callV (d2 := 0) (mc2 := 0) (ms2 := 0) (As := [.int 0]) (rest := []) C (c_fine 0 hL hE) dX12_undo_9 kV_X12_158 rfl hL hE ck_13 rfl (Nat.le_of_ble_eq_true rfl) ⟨Nat.le_of_ble_eq_true rfl, Nat.le_of_ble_eq_true rfl⟩ ⟨Nat.le_of_ble_eq_true rfl, Nat.le_of_ble_eq_true rfl⟩ (fun vh1 Lh1 Eh1 h1 => ?_)
  obtain ⟨rfl, rfl, rfl⟩ := h1
  refine q_st (st2 := [.int 0]) rfl ?_
  exact q_iret C dX12_undo_12 rfl (Nat.le_of_ble_eq_true rfl) (Nat.le_of_ble_eq_true rfl) rfl
set_option maxHeartbeats 4000000 in
set_option maxRecDepth 100000 in
theorem m_lose {l : Launch} {G : GT} {L : List Nat} {E : Nat → va_E} (l0 : Int32)  {h0 : Nat} {f : Nat → Value} (hL : h0 ∈ L) (hE : E h0 = ob 13 67 f) (f36 : f 36 = .int 0) : Mq l G yX12_lose cX12_lose 2 (some .int) 4 [.ref h0, .int l0] L E 0 0 (fun v L2 E2 => v = some (.int (-1))) := by
  refine Mq.mk (by decide) (Nat.le_of_ble_eq_true rfl) ?_
  intro p e s m args below meth c A C
  refine q_iload_n (j := 1) C dX12_lose_0 rfl ?_
  refine q_iconst (v := 0) C dX12_lose_1 (by decide) ?_
  refine q_aload_n (j := 0) C dX12_lose_2 rfl ?_
  refine q_get (k := 36) (v := .int 0) C ck_13 dX12_lose_3 w6_95 (by decide) hL hE f36 ?_
  refine q_iconst (v := 1) C dX12_lose_6 (by decide) ?_
  refine q_isub (v := (-1)) C dX12_lose_7 (by decide) ?_
  refine q_callS (d2 := 0) (mc2 := 0) (ms2 := 0) (As := [.int l0, .int 0, .int (-1)]) (rest := []) C (m_isIn l0 0 (-1)) dX12_lose_8 kS_X12_174 rfl rfl (Nat.le_of_ble_eq_true rfl) ⟨Nat.le_of_ble_eq_true rfl, Nat.le_of_ble_eq_true rfl⟩ ⟨Nat.le_of_ble_eq_true rfl, Nat.le_of_ble_eq_true rfl⟩ (fun vh1 Lh1 Eh1 h1 => ?_)
  obtain ⟨rfl, rfl, rfl⟩ := h1
  refine q_st (st2 := [.int (inn l0 0 (-1))]) rfl ?_
  refine q_if_ne (tgt := 20) C dX12_lose_11 (by decide) (fun z => absurd (inn0 _) z) (fun _ => ?_)
  refine q_aload_n (j := 0) C dX12_lose_14 rfl ?_
  refine q_iconst (v := 2) C dX12_lose_15 (by decide) ?_
  refine q_callV (d2 := 0) (mc2 := 0) (ms2 := 0) (As := [.int 2]) (rest := []) C (c_bad 2 hL hE) dX12_lose_16 kV_X12_154 rfl hL hE ck_13 rfl (Nat.le_of_ble_eq_true rfl) ⟨Nat.le_of_ble_eq_true rfl, Nat.le_of_ble_eq_true rfl⟩ ⟨Nat.le_of_ble_eq_true rfl, Nat.le_of_ble_eq_true rfl⟩ (fun vh2 Lh2 Eh2 h2 => ?_)
  obtain ⟨rfl, rfl, rfl⟩ := h2
  refine q_st (st2 := [.int (-1)]) rfl ?_
  exact q_iret C dX12_lose_19 rfl (Nat.le_of_ble_eq_true rfl) (Nat.le_of_ble_eq_true rfl) rfl
set_option maxHeartbeats 4000000 in
set_option maxRecDepth 100000 in
theorem m_length {l : Launch} {G : GT} {L : List Nat} {E : Nat → va_E} (l0 : Int32)  {h0 : Nat} {f : Nat → Value} (hL : h0 ∈ L) (hE : E h0 = ob 13 67 f) (f36 : f 36 = .int 0) : Mq l G yX12_length cX12_length 2 (some .int) 4 [.ref h0, .int l0] L E 0 0 (fun v L2 E2 => v = some (.int (-1))) := by
  refine Mq.mk (by decide) (Nat.le_of_ble_eq_true rfl) ?_
  intro p e s m args below meth c A C
  refine q_aload_n (j := 0) C dX12_length_0 rfl ?_
  refine q_iload_n (j := 1) C dX12_length_1 rfl ?_
  refine q_callV (d2 := 1) (mc2 := 0) (ms2 := 0) (As := [.int l0]) (rest := []) C (m_lineFault (f := f) l0 hL hE f36) dX12_length_2 kV_X12_294 rfl hL hE ck_13 rfl (Nat.le_of_ble_eq_true rfl) ⟨Nat.le_of_ble_eq_true rfl, Nat.le_of_ble_eq_true rfl⟩ ⟨Nat.le_of_ble_eq_true rfl, Nat.le_of_ble_eq_true rfl⟩ (fun vh1 Lh1 Eh1 h1 => ?_)
  obtain ⟨rfl, rfl, rfl⟩ := h1
  refine q_st (st2 := [.int 2]) rfl ?_
  refine q_if_le (tgt := 20) C dX12_length_5 (by decide) (fun z => absurd z (by decide)) (fun _ => ?_)
  refine q_aload_n (j := 0) C dX12_length_8 rfl ?_
  refine q_aload_n (j := 0) C dX12_length_9 rfl ?_
  refine q_iload_n (j := 1) C dX12_length_10 rfl ?_
  refine q_callV (d2 := 1) (mc2 := 0) (ms2 := 0) (As := [.int l0]) (rest := [.ref h0]) C (m_lineFault (f := f) l0 hL hE f36) dX12_length_11 kV_X12_294 rfl hL hE ck_13 rfl (Nat.le_of_ble_eq_true rfl) ⟨Nat.le_of_ble_eq_true rfl, Nat.le_of_ble_eq_true rfl⟩ ⟨Nat.le_of_ble_eq_true rfl, Nat.le_of_ble_eq_true rfl⟩ (fun vh2 Lh2 Eh2 h2 => ?_)
  obtain ⟨rfl, rfl, rfl⟩ := h2
  refine q_st (st2 := [.int 2, .ref h0]) rfl ?_
  refine q_callV (d2 := 0) (mc2 := 0) (ms2 := 0) (As := [.int 2]) (rest := []) C (c_bad 2 hL hE) dX12_length_14 kV_X12_154 rfl hL hE ck_13 rfl (Nat.le_of_ble_eq_true rfl) ⟨Nat.le_of_ble_eq_true rfl, Nat.le_of_ble_eq_true rfl⟩ ⟨Nat.le_of_ble_eq_true rfl, Nat.le_of_ble_eq_true rfl⟩ (fun vh3 Lh3 Eh3 h3 => ?_)
  obtain ⟨rfl, rfl, rfl⟩ := h3
  refine q_st (st2 := [.int (-1)]) rfl ?_
  refine q_goto (tgt := 30) C dX12_length_17 (by decide) ?_
  exact q_iret C dX12_length_30 rfl (Nat.le_of_ble_eq_true rfl) (Nat.le_of_ble_eq_true rfl) rfl
set_option maxHeartbeats 4000000 in
set_option maxRecDepth 100000 in
theorem m_cell {l : Launch} {G : GT} {L : List Nat} {E : Nat → va_E} (l0 i : Int32)  {h0 : Nat} {f : Nat → Value} (hL : h0 ∈ L) (hE : E h0 = ob 13 67 f) (f36 : f 36 = .int 0) : Mq l G yX12_cell cX12_cell 3 (some .int) 4 [.ref h0, .int l0, .int i] L E 0 0 (fun v L2 E2 => v = some (.int (-1))) := by
  refine Mq.mk (by decide) (Nat.le_of_ble_eq_true rfl) ?_
  intro p e s m args below meth c A C
  refine q_aload_n (j := 0) C dX12_cell_0 rfl ?_
  refine q_iload_n (j := 1) C dX12_cell_1 rfl ?_
  refine q_callV (d2 := 1) (mc2 := 0) (ms2 := 0) (As := [.int l0]) (rest := []) C (m_lineFault (f := f) l0 hL hE f36) dX12_cell_2 kV_X12_294 rfl hL hE ck_13 rfl (Nat.le_of_ble_eq_true rfl) ⟨Nat.le_of_ble_eq_true rfl, Nat.le_of_ble_eq_true rfl⟩ ⟨Nat.le_of_ble_eq_true rfl, Nat.le_of_ble_eq_true rfl⟩ (fun vh1 Lh1 Eh1 h1 => ?_)
  obtain ⟨rfl, rfl, rfl⟩ := h1
  refine q_st (st2 := [.int 2]) rfl ?_
  refine q_if_le (tgt := 18) C dX12_cell_5 (by decide) (fun z => absurd z (by decide)) (fun _ => ?_)
  refine q_aload_n (j := 0) C dX12_cell_8 rfl ?_
  refine q_aload_n (j := 0) C dX12_cell_9 rfl ?_
  refine q_iload_n (j := 1) C dX12_cell_10 rfl ?_
  refine q_callV (d2 := 1) (mc2 := 0) (ms2 := 0) (As := [.int l0]) (rest := [.ref h0]) C (m_lineFault (f := f) l0 hL hE f36) dX12_cell_11 kV_X12_294 rfl hL hE ck_13 rfl (Nat.le_of_ble_eq_true rfl) ⟨Nat.le_of_ble_eq_true rfl, Nat.le_of_ble_eq_true rfl⟩ ⟨Nat.le_of_ble_eq_true rfl, Nat.le_of_ble_eq_true rfl⟩ (fun vh2 Lh2 Eh2 h2 => ?_)
  obtain ⟨rfl, rfl, rfl⟩ := h2
  refine q_st (st2 := [.int 2, .ref h0]) rfl ?_
  refine q_callV (d2 := 0) (mc2 := 0) (ms2 := 0) (As := [.int 2]) (rest := []) C (c_bad 2 hL hE) dX12_cell_14 kV_X12_154 rfl hL hE ck_13 rfl (Nat.le_of_ble_eq_true rfl) ⟨Nat.le_of_ble_eq_true rfl, Nat.le_of_ble_eq_true rfl⟩ ⟨Nat.le_of_ble_eq_true rfl, Nat.le_of_ble_eq_true rfl⟩ (fun vh3 Lh3 Eh3 h3 => ?_)
  obtain ⟨rfl, rfl, rfl⟩ := h3
  refine q_st (st2 := [.int (-1)]) rfl ?_
  exact q_iret C dX12_cell_17 rfl (Nat.le_of_ble_eq_true rfl) (Nat.le_of_ble_eq_true rfl) rfl
set_option maxHeartbeats 4000000 in
set_option maxRecDepth 100000 in
theorem m_cut {l : Launch} {G : GT} {L : List Nat} {E : Nat → va_E} (l0 n : Int32)  {h0 : Nat} {f : Nat → Value} (hL : h0 ∈ L) (hE : E h0 = ob 13 67 f) (f36 : f 36 = .int 0) : Mq l G yX12_cut cX12_cut 4 (some .int) 4 [.ref h0, .int l0, .int n] L E 0 0 (fun v L2 E2 => v = some (.int (-1))) := by
  refine Mq.mk (by decide) (Nat.le_of_ble_eq_true rfl) ?_
  intro p e s m args below meth c A C
  refine q_iload_n (j := 2) C dX12_cut_0 rfl ?_
  refine q_sipush (v := 200) C dX12_cut_1 (by decide) ?_
  refine q_icmp_le (tgt := 14) C dX12_cut_4 (by decide) (fun c1 => ?_) (fun c1 => ?_)
  · refine q_iload_n (j := 2) C dX12_cut_14 rfl ?_
    refine q_if_ge (tgt := 24) C dX12_cut_15 (by decide) (fun c2 => ?_) (fun c2 => ?_)
    · refine q_aload_n (j := 0) C dX12_cut_24 rfl ?_
      refine q_iload_n (j := 1) C dX12_cut_25 rfl ?_
      refine q_callV (d2 := 1) (mc2 := 0) (ms2 := 0) (As := [.int l0]) (rest := []) C (m_lineFault (f := f) l0 hL hE f36) dX12_cut_26 kV_X12_294 rfl hL hE ck_13 rfl (Nat.le_of_ble_eq_true rfl) ⟨Nat.le_of_ble_eq_true rfl, Nat.le_of_ble_eq_true rfl⟩ ⟨Nat.le_of_ble_eq_true rfl, Nat.le_of_ble_eq_true rfl⟩ (fun vh1 Lh1 Eh1 h1 => ?_)
      obtain ⟨rfl, rfl, rfl⟩ := h1
      refine q_st (st2 := [.int 2]) rfl ?_
      refine q_if_le (tgt := 42) C dX12_cut_29 (by decide) (fun z => absurd z (by decide)) (fun _ => ?_)
      refine q_aload_n (j := 0) C dX12_cut_32 rfl ?_
      refine q_aload_n (j := 0) C dX12_cut_33 rfl ?_
      refine q_iload_n (j := 1) C dX12_cut_34 rfl ?_
      refine q_callV (d2 := 1) (mc2 := 0) (ms2 := 0) (As := [.int l0]) (rest := [.ref h0]) C (m_lineFault (f := f) l0 hL hE f36) dX12_cut_35 kV_X12_294 rfl hL hE ck_13 rfl (Nat.le_of_ble_eq_true rfl) ⟨Nat.le_of_ble_eq_true rfl, Nat.le_of_ble_eq_true rfl⟩ ⟨Nat.le_of_ble_eq_true rfl, Nat.le_of_ble_eq_true rfl⟩ (fun vh2 Lh2 Eh2 h2 => ?_)
      obtain ⟨rfl, rfl, rfl⟩ := h2
      refine q_st (st2 := [.int 2, .ref h0]) rfl ?_
      refine q_callV (d2 := 0) (mc2 := 0) (ms2 := 0) (As := [.int 2]) (rest := []) C (c_bad 2 hL hE) dX12_cut_38 kV_X12_154 rfl hL hE ck_13 rfl (Nat.le_of_ble_eq_true rfl) ⟨Nat.le_of_ble_eq_true rfl, Nat.le_of_ble_eq_true rfl⟩ ⟨Nat.le_of_ble_eq_true rfl, Nat.le_of_ble_eq_true rfl⟩ (fun vh3 Lh3 Eh3 h3 => ?_)
      obtain ⟨rfl, rfl, rfl⟩ := h3
      refine q_st (st2 := [.int (-1)]) rfl ?_
      exact q_iret C dX12_cut_41 rfl (Nat.le_of_ble_eq_true rfl) (Nat.le_of_ble_eq_true rfl) rfl
    · refine q_aload_n (j := 0) C dX12_cut_18 rfl ?_
      refine q_iconst (v := 5) C dX12_cut_19 (by decide) ?_
      refine q_callV (d2 := 0) (mc2 := 0) (ms2 := 0) (As := [.int 5]) (rest := []) C (c_bad 5 hL hE) dX12_cut_20 kV_X12_154 rfl hL hE ck_13 rfl (Nat.le_of_ble_eq_true rfl) ⟨Nat.le_of_ble_eq_true rfl, Nat.le_of_ble_eq_true rfl⟩ ⟨Nat.le_of_ble_eq_true rfl, Nat.le_of_ble_eq_true rfl⟩ (fun vh4 Lh4 Eh4 h4 => ?_)
      obtain ⟨rfl, rfl, rfl⟩ := h4
      refine q_st (st2 := [.int (-1)]) rfl ?_
      exact q_iret C dX12_cut_23 rfl (Nat.le_of_ble_eq_true rfl) (Nat.le_of_ble_eq_true rfl) rfl
  · refine q_aload_n (j := 0) C dX12_cut_7 rfl ?_
    refine q_bipush (v := 6) C dX12_cut_8 (by decide) ?_
    refine q_callV (d2 := 0) (mc2 := 0) (ms2 := 0) (As := [.int 6]) (rest := []) C (c_bad 6 hL hE) dX12_cut_10 kV_X12_154 rfl hL hE ck_13 rfl (Nat.le_of_ble_eq_true rfl) ⟨Nat.le_of_ble_eq_true rfl, Nat.le_of_ble_eq_true rfl⟩ ⟨Nat.le_of_ble_eq_true rfl, Nat.le_of_ble_eq_true rfl⟩ (fun vh5 Lh5 Eh5 h5 => ?_)
    obtain ⟨rfl, rfl, rfl⟩ := h5
    refine q_st (st2 := [.int (-1)]) rfl ?_
    exact q_iret C dX12_cut_13 rfl (Nat.le_of_ble_eq_true rfl) (Nat.le_of_ble_eq_true rfl) rfl
set_option maxHeartbeats 4000000 in
set_option maxRecDepth 100000 in
theorem m_copyRow {l : Launch} {G : GT} {L : List Nat} {E : Nat → va_E} (a b c1 d1 n : Int32)  {h0 : Nat} {f : Nat → Value} (hL : h0 ∈ L) (hE : E h0 = ob 13 67 f) (f36 : f 36 = .int 0) : Mq l G yX12_copyRow cX12_copyRow 11 (some .int) 4 [.ref h0, .int a, .int b, .int c1, .int d1, .int n] L E 0 0 (fun v L2 E2 => v = some (.int (-1))) := by
  refine Mq.mk (by decide) (Nat.le_of_ble_eq_true rfl) ?_
  intro p e s m args below meth c A C
  refine q_iload_n (j := 1) C dX12_copyRow_0 rfl ?_
  refine q_iconst (v := 0) C dX12_copyRow_1 (by decide) ?_
  refine q_aload_n (j := 0) C dX12_copyRow_2 rfl ?_
  refine q_get (k := 36) (v := .int 0) C ck_13 dX12_copyRow_3 w6_95 (by decide) hL hE f36 ?_
  refine q_iconst (v := 1) C dX12_copyRow_6 (by decide) ?_
  refine q_isub (v := (-1)) C dX12_copyRow_7 (by decide) ?_
  refine q_callS (d2 := 0) (mc2 := 0) (ms2 := 0) (As := [.int a, .int 0, .int (-1)]) (rest := []) C (m_isIn a 0 (-1)) dX12_copyRow_8 kS_X12_174 rfl rfl (Nat.le_of_ble_eq_true rfl) ⟨Nat.le_of_ble_eq_true rfl, Nat.le_of_ble_eq_true rfl⟩ ⟨Nat.le_of_ble_eq_true rfl, Nat.le_of_ble_eq_true rfl⟩ (fun vh1 Lh1 Eh1 h1 => ?_)
  obtain ⟨rfl, rfl, rfl⟩ := h1
  refine q_st (st2 := [.int (inn a 0 (-1))]) rfl ?_
  refine q_if_eq (tgt := 28) C dX12_copyRow_11 (by decide) (fun _ => ?_) (fun z => absurd (inn0 _) z)
  refine q_aload_n (j := 0) C dX12_copyRow_28 rfl ?_
  refine q_iconst (v := 2) C dX12_copyRow_29 (by decide) ?_
  refine q_callV (d2 := 0) (mc2 := 0) (ms2 := 0) (As := [.int 2]) (rest := []) C (c_bad 2 hL hE) dX12_copyRow_30 kV_X12_154 rfl hL hE ck_13 rfl (Nat.le_of_ble_eq_true rfl) ⟨Nat.le_of_ble_eq_true rfl, Nat.le_of_ble_eq_true rfl⟩ ⟨Nat.le_of_ble_eq_true rfl, Nat.le_of_ble_eq_true rfl⟩ (fun vh2 Lh2 Eh2 h2 => ?_)
  obtain ⟨rfl, rfl, rfl⟩ := h2
  refine q_st (st2 := [.int (-1)]) rfl ?_
  exact q_iret C dX12_copyRow_33 rfl (Nat.le_of_ble_eq_true rfl) (Nat.le_of_ble_eq_true rfl) rfl
set_option maxHeartbeats 4000000 in
set_option maxRecDepth 100000 in
theorem m_reading {l : Launch} {G : GT} {L : List Nat} {E : Nat → va_E} (k i : Int32)  {h0 : Nat} {f : Nat → Value} (hL : h0 ∈ L) (hE : E h0 = ob 13 67 f) (f60 : f 60 = .int 0) : Mq l G yX12_reading cX12_reading 3 (some .int) 4 [.ref h0, .int k, .int i] L E 0 0 (fun v L2 E2 => v = some (.int (-1))) := by
  refine Mq.mk (by decide) (Nat.le_of_ble_eq_true rfl) ?_
  intro p e s m args below meth c A C
  refine q_iload_n (j := 1) C dX12_reading_0 rfl ?_
  refine q_iconst (v := 0) C dX12_reading_1 (by decide) ?_
  refine q_aload_n (j := 0) C dX12_reading_2 rfl ?_
  refine q_get (k := 60) (v := .int 0) C ck_13 dX12_reading_3 w6_119 (by decide) hL hE f60 ?_
  refine q_iconst (v := 1) C dX12_reading_6 (by decide) ?_
  refine q_isub (v := (-1)) C dX12_reading_7 (by decide) ?_
  refine q_callS (d2 := 0) (mc2 := 0) (ms2 := 0) (As := [.int k, .int 0, .int (-1)]) (rest := []) C (m_isIn k 0 (-1)) dX12_reading_8 kS_X12_174 rfl rfl (Nat.le_of_ble_eq_true rfl) ⟨Nat.le_of_ble_eq_true rfl, Nat.le_of_ble_eq_true rfl⟩ ⟨Nat.le_of_ble_eq_true rfl, Nat.le_of_ble_eq_true rfl⟩ (fun vh1 Lh1 Eh1 h1 => ?_)
  obtain ⟨rfl, rfl, rfl⟩ := h1
  refine q_st (st2 := [.int (inn k 0 (-1))]) rfl ?_
  refine q_if_eq (tgt := 49) C dX12_reading_11 (by decide) (fun _ => ?_) (fun z => absurd (inn0 _) z)
  refine q_aload_n (j := 0) C dX12_reading_49 rfl ?_
  refine q_iconst (v := 2) C dX12_reading_50 (by decide) ?_
  refine q_callV (d2 := 0) (mc2 := 0) (ms2 := 0) (As := [.int 2]) (rest := []) C (c_bad 2 hL hE) dX12_reading_51 kV_X12_154 rfl hL hE ck_13 rfl (Nat.le_of_ble_eq_true rfl) ⟨Nat.le_of_ble_eq_true rfl, Nat.le_of_ble_eq_true rfl⟩ ⟨Nat.le_of_ble_eq_true rfl, Nat.le_of_ble_eq_true rfl⟩ (fun vh2 Lh2 Eh2 h2 => ?_)
  obtain ⟨rfl, rfl, rfl⟩ := h2
  refine q_st (st2 := [.int (-1)]) rfl ?_
  exact q_iret C dX12_reading_54 rfl (Nat.le_of_ble_eq_true rfl) (Nat.le_of_ble_eq_true rfl) rfl
set_option maxHeartbeats 4000000 in
set_option maxRecDepth 100000 in
theorem m_letter {l : Launch} {G : GT} {L : List Nat} {E : Nat → va_E} (i : Int32)  {h0 : Nat} {f : Nat → Value} (hL : h0 ∈ L) (hE : E h0 = ob 13 67 f) (f52 : f 52 = .int 0) : Mq l G yX12_letter cX12_letter 2 (some .int) 4 [.ref h0, .int i] L E 0 0 (fun v L2 E2 => v = some (.int (-1))) := by
  refine Mq.mk (by decide) (Nat.le_of_ble_eq_true rfl) ?_
  intro p e s m args below meth c A C
  refine q_iload_n (j := 1) C dX12_letter_0 rfl ?_
  refine q_iconst (v := 0) C dX12_letter_1 (by decide) ?_
  refine q_aload_n (j := 0) C dX12_letter_2 rfl ?_
  refine q_get (k := 52) (v := .int 0) C ck_13 dX12_letter_3 w6_111 (by decide) hL hE f52 ?_
  refine q_iconst (v := 1) C dX12_letter_6 (by decide) ?_
  refine q_isub (v := (-1)) C dX12_letter_7 (by decide) ?_
  refine q_callS (d2 := 0) (mc2 := 0) (ms2 := 0) (As := [.int i, .int 0, .int (-1)]) (rest := []) C (m_isIn i 0 (-1)) dX12_letter_8 kS_X12_174 rfl rfl (Nat.le_of_ble_eq_true rfl) ⟨Nat.le_of_ble_eq_true rfl, Nat.le_of_ble_eq_true rfl⟩ ⟨Nat.le_of_ble_eq_true rfl, Nat.le_of_ble_eq_true rfl⟩ (fun vh1 Lh1 Eh1 h1 => ?_)
  obtain ⟨rfl, rfl, rfl⟩ := h1
  refine q_st (st2 := [.int (inn i 0 (-1))]) rfl ?_
  refine q_if_eq (tgt := 27) C dX12_letter_11 (by decide) (fun _ => ?_) (fun z => absurd (inn0 _) z)
  refine q_aload_n (j := 0) C dX12_letter_27 rfl ?_
  refine q_iconst (v := 2) C dX12_letter_28 (by decide) ?_
  refine q_callV (d2 := 0) (mc2 := 0) (ms2 := 0) (As := [.int 2]) (rest := []) C (c_bad 2 hL hE) dX12_letter_29 kV_X12_154 rfl hL hE ck_13 rfl (Nat.le_of_ble_eq_true rfl) ⟨Nat.le_of_ble_eq_true rfl, Nat.le_of_ble_eq_true rfl⟩ ⟨Nat.le_of_ble_eq_true rfl, Nat.le_of_ble_eq_true rfl⟩ (fun vh2 Lh2 Eh2 h2 => ?_)
  obtain ⟨rfl, rfl, rfl⟩ := h2
  refine q_st (st2 := [.int (-1)]) rfl ?_
  exact q_iret C dX12_letter_32 rfl (Nat.le_of_ble_eq_true rfl) (Nat.le_of_ble_eq_true rfl) rfl
set_option maxHeartbeats 4000000 in
set_option maxRecDepth 100000 in
theorem m_readings {l : Launch} {G : GT} {L : List Nat} {E : Nat → va_E} (t l0 most : Int32)  {h0 : Nat} {f : Nat → Value} (hL : h0 ∈ L) (hE : E h0 = ob 13 67 f) (f4 : f 4 = .int 0) : Mq l G yX12_readings cX12_readings 5 (some .int) 4 [.ref h0, .int t, .int l0, .int most] L E 0 0 (fun v L2 E2 => v = some (.int (-1))) := by
  refine Mq.mk (by decide) (Nat.le_of_ble_eq_true rfl) ?_
  intro p e s m args below meth c A C
  refine q_iload_n (j := 3) C dX12_readings_0 rfl ?_
  refine q_iconst (v := 1) C dX12_readings_1 (by decide) ?_
  refine q_bipush (v := 50) C dX12_readings_2 (by decide) ?_
  refine q_callS (d2 := 0) (mc2 := 0) (ms2 := 0) (As := [.int most, .int 1, .int 50]) (rest := []) C (m_isIn most 1 50) dX12_readings_4 kS_X12_174 rfl rfl (Nat.le_of_ble_eq_true rfl) ⟨Nat.le_of_ble_eq_true rfl, Nat.le_of_ble_eq_true rfl⟩ ⟨Nat.le_of_ble_eq_true rfl, Nat.le_of_ble_eq_true rfl⟩ (fun vh1 Lh1 Eh1 h1 => ?_)
  obtain ⟨rfl, rfl, rfl⟩ := h1
  refine q_st (st2 := [.int (inn most 1 50)]) rfl ?_
  refine q_if_ne (tgt := 17) C dX12_readings_7 (by decide) (fun c1 => ?_) (fun c1 => ?_)
  · refine q_aload_n (j := 0) C dX12_readings_17 rfl ?_
    refine q_iload_n (j := 1) C dX12_readings_18 rfl ?_
    refine q_callV (d2 := 1) (mc2 := 0) (ms2 := 0) (As := [.int t]) (rest := []) C (m_isWhole (f := f) t hL hE f4) dX12_readings_19 kV_X12_171 rfl hL hE ck_13 rfl (Nat.le_of_ble_eq_true rfl) ⟨Nat.le_of_ble_eq_true rfl, Nat.le_of_ble_eq_true rfl⟩ ⟨Nat.le_of_ble_eq_true rfl, Nat.le_of_ble_eq_true rfl⟩ (fun vh2 Lh2 Eh2 h2 => ?_)
    obtain ⟨rfl, rfl, rfl⟩ := h2
    refine q_st (st2 := [.int 0]) rfl ?_
    refine q_if_ne (tgt := 31) C dX12_readings_22 (by decide) (fun z => absurd (by decide) z) (fun _ => ?_)
    refine q_aload_n (j := 0) C dX12_readings_25 rfl ?_
    refine q_iconst (v := 3) C dX12_readings_26 (by decide) ?_
    refine q_callV (d2 := 0) (mc2 := 0) (ms2 := 0) (As := [.int 3]) (rest := []) C (c_bad 3 hL hE) dX12_readings_27 kV_X12_154 rfl hL hE ck_13 rfl (Nat.le_of_ble_eq_true rfl) ⟨Nat.le_of_ble_eq_true rfl, Nat.le_of_ble_eq_true rfl⟩ ⟨Nat.le_of_ble_eq_true rfl, Nat.le_of_ble_eq_true rfl⟩ (fun vh3 Lh3 Eh3 h3 => ?_)
    obtain ⟨rfl, rfl, rfl⟩ := h3
    refine q_st (st2 := [.int (-1)]) rfl ?_
    exact q_iret C dX12_readings_30 rfl (Nat.le_of_ble_eq_true rfl) (Nat.le_of_ble_eq_true rfl) rfl
  · refine q_aload_n (j := 0) C dX12_readings_10 rfl ?_
    refine q_bipush (v := 6) C dX12_readings_11 (by decide) ?_
    refine q_callV (d2 := 0) (mc2 := 0) (ms2 := 0) (As := [.int 6]) (rest := []) C (c_bad 6 hL hE) dX12_readings_13 kV_X12_154 rfl hL hE ck_13 rfl (Nat.le_of_ble_eq_true rfl) ⟨Nat.le_of_ble_eq_true rfl, Nat.le_of_ble_eq_true rfl⟩ ⟨Nat.le_of_ble_eq_true rfl, Nat.le_of_ble_eq_true rfl⟩ (fun vh4 Lh4 Eh4 h4 => ?_)
    obtain ⟨rfl, rfl, rfl⟩ := h4
    refine q_st (st2 := [.int (-1)]) rfl ?_
    exact q_iret C dX12_readings_16 rfl (Nat.le_of_ble_eq_true rfl) (Nat.le_of_ble_eq_true rfl) rfl
set_option maxHeartbeats 4000000 in
set_option maxRecDepth 100000 in
theorem m_unreadable {l : Launch} {G : GT} {L : List Nat} {E : Nat → va_E} (t n most : Int32)  {h0 : Nat} {f : Nat → Value} (hL : h0 ∈ L) (hE : E h0 = ob 13 67 f) (f4 : f 4 = .int 0) : Mq l G yX12_unreadable cX12_unreadable 9 (some .int) 4 [.ref h0, .int t, .int n, .int most] L E 0 0 (fun v L2 E2 => v = some (.int (-1))) := by
  refine Mq.mk (by decide) (Nat.le_of_ble_eq_true rfl) ?_
  intro p e s m args below meth c A C
  refine q_iload_n (j := 2) C dX12_unreadable_0 rfl ?_
  refine q_iconst (v := 1) C dX12_unreadable_1 (by decide) ?_
  refine q_bipush (v := 6) C dX12_unreadable_2 (by decide) ?_
  refine q_callS (d2 := 0) (mc2 := 0) (ms2 := 0) (As := [.int n, .int 1, .int 6]) (rest := []) C (m_isIn n 1 6) dX12_unreadable_4 kS_X12_174 rfl rfl (Nat.le_of_ble_eq_true rfl) ⟨Nat.le_of_ble_eq_true rfl, Nat.le_of_ble_eq_true rfl⟩ ⟨Nat.le_of_ble_eq_true rfl, Nat.le_of_ble_eq_true rfl⟩ (fun vh1 Lh1 Eh1 h1 => ?_)
  obtain ⟨rfl, rfl, rfl⟩ := h1
  refine q_st (st2 := [.int (inn n 1 6)]) rfl ?_
  refine q_if_eq (tgt := 21) C dX12_unreadable_7 (by decide) (fun c1 => ?_) (fun c1 => ?_)
  · refine q_aload_n (j := 0) C dX12_unreadable_21 rfl ?_
    refine q_bipush (v := 6) C dX12_unreadable_22 (by decide) ?_
    refine q_callV (d2 := 0) (mc2 := 0) (ms2 := 0) (As := [.int 6]) (rest := []) C (c_bad 6 hL hE) dX12_unreadable_24 kV_X12_154 rfl hL hE ck_13 rfl (Nat.le_of_ble_eq_true rfl) ⟨Nat.le_of_ble_eq_true rfl, Nat.le_of_ble_eq_true rfl⟩ ⟨Nat.le_of_ble_eq_true rfl, Nat.le_of_ble_eq_true rfl⟩ (fun vh2 Lh2 Eh2 h2 => ?_)
    obtain ⟨rfl, rfl, rfl⟩ := h2
    refine q_st (st2 := [.int (-1)]) rfl ?_
    exact q_iret C dX12_unreadable_27 rfl (Nat.le_of_ble_eq_true rfl) (Nat.le_of_ble_eq_true rfl) rfl
  · refine q_iload_n (j := 3) C dX12_unreadable_10 rfl ?_
    refine q_iconst (v := 1) C dX12_unreadable_11 (by decide) ?_
    refine q_sipush (v := 5000) C dX12_unreadable_12 (by decide) ?_
    refine q_callS (d2 := 0) (mc2 := 0) (ms2 := 0) (As := [.int most, .int 1, .int 5000]) (rest := []) C (m_isIn most 1 5000) dX12_unreadable_15 kS_X12_174 rfl rfl (Nat.le_of_ble_eq_true rfl) ⟨Nat.le_of_ble_eq_true rfl, Nat.le_of_ble_eq_true rfl⟩ ⟨Nat.le_of_ble_eq_true rfl, Nat.le_of_ble_eq_true rfl⟩ (fun vh3 Lh3 Eh3 h3 => ?_)
    obtain ⟨rfl, rfl, rfl⟩ := h3
    refine q_st (st2 := [.int (inn most 1 5000)]) rfl ?_
    refine q_if_ne (tgt := 28) C dX12_unreadable_18 (by decide) (fun c2 => ?_) (fun c2 => ?_)
    · refine q_aload_n (j := 0) C dX12_unreadable_28 rfl ?_
      refine q_iload_n (j := 1) C dX12_unreadable_29 rfl ?_
      refine q_callV (d2 := 1) (mc2 := 0) (ms2 := 0) (As := [.int t]) (rest := []) C (m_isWhole (f := f) t hL hE f4) dX12_unreadable_30 kV_X12_171 rfl hL hE ck_13 rfl (Nat.le_of_ble_eq_true rfl) ⟨Nat.le_of_ble_eq_true rfl, Nat.le_of_ble_eq_true rfl⟩ ⟨Nat.le_of_ble_eq_true rfl, Nat.le_of_ble_eq_true rfl⟩ (fun vh4 Lh4 Eh4 h4 => ?_)
      obtain ⟨rfl, rfl, rfl⟩ := h4
      refine q_st (st2 := [.int 0]) rfl ?_
      refine q_if_ne (tgt := 42) C dX12_unreadable_33 (by decide) (fun z => absurd (by decide) z) (fun _ => ?_)
      refine q_aload_n (j := 0) C dX12_unreadable_36 rfl ?_
      refine q_iconst (v := 3) C dX12_unreadable_37 (by decide) ?_
      refine q_callV (d2 := 0) (mc2 := 0) (ms2 := 0) (As := [.int 3]) (rest := []) C (c_bad 3 hL hE) dX12_unreadable_38 kV_X12_154 rfl hL hE ck_13 rfl (Nat.le_of_ble_eq_true rfl) ⟨Nat.le_of_ble_eq_true rfl, Nat.le_of_ble_eq_true rfl⟩ ⟨Nat.le_of_ble_eq_true rfl, Nat.le_of_ble_eq_true rfl⟩ (fun vh5 Lh5 Eh5 h5 => ?_)
      obtain ⟨rfl, rfl, rfl⟩ := h5
      refine q_st (st2 := [.int (-1)]) rfl ?_
      exact q_iret C dX12_unreadable_41 rfl (Nat.le_of_ble_eq_true rfl) (Nat.le_of_ble_eq_true rfl) rfl
    · refine q_aload_n (j := 0) C dX12_unreadable_21 rfl ?_
      refine q_bipush (v := 6) C dX12_unreadable_22 (by decide) ?_
      refine q_callV (d2 := 0) (mc2 := 0) (ms2 := 0) (As := [.int 6]) (rest := []) C (c_bad 6 hL hE) dX12_unreadable_24 kV_X12_154 rfl hL hE ck_13 rfl (Nat.le_of_ble_eq_true rfl) ⟨Nat.le_of_ble_eq_true rfl, Nat.le_of_ble_eq_true rfl⟩ ⟨Nat.le_of_ble_eq_true rfl, Nat.le_of_ble_eq_true rfl⟩ (fun vh6 Lh6 Eh6 h6 => ?_)
      obtain ⟨rfl, rfl, rfl⟩ := h6
      refine q_st (st2 := [.int (-1)]) rfl ?_
      exact q_iret C dX12_unreadable_27 rfl (Nat.le_of_ble_eq_true rfl) (Nat.le_of_ble_eq_true rfl) rfl
set_option maxHeartbeats 4000000 in
set_option maxRecDepth 100000 in
theorem m_page {l : Launch} {G : GT} {L : List Nat} {E : Nat → va_E} (p0 l0 i : Int32)  {h0 : Nat} {f : Nat → Value} (hL : h0 ∈ L) (hE : E h0 = ob 13 67 f) (f32 : f 32 = .int 25) (f36 : f 36 = .int 0) (f41 : f 41 = .int 0) : Mq l G yX12_page cX12_page 5 (some .int) 4 [.ref h0, .int p0, .int l0, .int i] L E 0 0 (fun v L2 E2 => v = some (.int (-1))) := by
  refine Mq.mk (by decide) (Nat.le_of_ble_eq_true rfl) ?_
  intro p e s m args below meth c A C
  refine q_iload_n (j := 1) C dX12_page_0 rfl ?_
  refine q_iconst (v := 0) C dX12_page_1 (by decide) ?_
  refine q_aload_n (j := 0) C dX12_page_2 rfl ?_
  refine q_callV (d2 := 3) (mc2 := 0) (ms2 := 0) (As := []) (rest := [.int 0, .int p0]) C (m_pages (f := f)  hL hE f32 f36 f41) dX12_page_3 kV_X12_297 rfl hL hE ck_13 rfl (Nat.le_of_ble_eq_true rfl) ⟨Nat.le_of_ble_eq_true rfl, Nat.le_of_ble_eq_true rfl⟩ ⟨Nat.le_of_ble_eq_true rfl, Nat.le_of_ble_eq_true rfl⟩ (fun vh1 Lh1 Eh1 h1 => ?_)
  obtain ⟨rfl, rfl, rfl⟩ := h1
  refine q_st (st2 := [.int 0, .int 0, .int p0]) rfl ?_
  refine q_iconst (v := 1) C dX12_page_6 (by decide) ?_
  refine q_isub (v := (-1)) C dX12_page_7 (by decide) ?_
  refine q_callS (d2 := 0) (mc2 := 0) (ms2 := 0) (As := [.int p0, .int 0, .int (-1)]) (rest := []) C (m_isIn p0 0 (-1)) dX12_page_8 kS_X12_174 rfl rfl (Nat.le_of_ble_eq_true rfl) ⟨Nat.le_of_ble_eq_true rfl, Nat.le_of_ble_eq_true rfl⟩ ⟨Nat.le_of_ble_eq_true rfl, Nat.le_of_ble_eq_true rfl⟩ (fun vh2 Lh2 Eh2 h2 => ?_)
  obtain ⟨rfl, rfl, rfl⟩ := h2
  refine q_st (st2 := [.int (inn p0 0 (-1))]) rfl ?_
  refine q_if_ne (tgt := 20) C dX12_page_11 (by decide) (fun z => absurd (inn0 _) z) (fun _ => ?_)
  refine q_aload_n (j := 0) C dX12_page_14 rfl ?_
  refine q_iconst (v := 2) C dX12_page_15 (by decide) ?_
  refine q_callV (d2 := 0) (mc2 := 0) (ms2 := 0) (As := [.int 2]) (rest := []) C (c_bad 2 hL hE) dX12_page_16 kV_X12_154 rfl hL hE ck_13 rfl (Nat.le_of_ble_eq_true rfl) ⟨Nat.le_of_ble_eq_true rfl, Nat.le_of_ble_eq_true rfl⟩ ⟨Nat.le_of_ble_eq_true rfl, Nat.le_of_ble_eq_true rfl⟩ (fun vh3 Lh3 Eh3 h3 => ?_)
  obtain ⟨rfl, rfl, rfl⟩ := h3
  refine q_st (st2 := [.int (-1)]) rfl ?_
  exact q_iret C dX12_page_19 rfl (Nat.le_of_ble_eq_true rfl) (Nat.le_of_ble_eq_true rfl) rfl
set_option maxHeartbeats 4000000 in
set_option maxRecDepth 100000 in
theorem m_rule {l : Launch} {G : GT} {L : List Nat} {E : Nat → va_E} (t k n : Int32)  {h0 : Nat} {f : Nat → Value} (hL : h0 ∈ L) (hE : E h0 = ob 13 67 f) (f3 : f 3 = .int 0) (f4 : f 4 = .int 0) : Mq l G yX12_rule cX12_rule 8 (some .int) 4 [.ref h0, .int t, .int k, .int n] L E 0 0 (fun v L2 E2 => v = some (.int (-1))) := by
  refine Mq.mk (by decide) (Nat.le_of_ble_eq_true rfl) ?_
  intro p e s m args below meth c A C
  refine q_aload_n (j := 0) C dX12_rule_0 rfl ?_
  refine q_callV (d2 := 0) (mc2 := 0) (ms2 := 0) (As := []) (rest := []) C (m_taken hL hE f3) dX12_rule_1 kV_X12_192 rfl hL hE ck_13 rfl (Nat.le_of_ble_eq_true rfl) ⟨Nat.le_of_ble_eq_true rfl, Nat.le_of_ble_eq_true rfl⟩ ⟨Nat.le_of_ble_eq_true rfl, Nat.le_of_ble_eq_true rfl⟩ (fun vh1 Lh1 Eh1 h1 => ?_)
  obtain ⟨rfl, rfl, rfl⟩ := h1
  refine q_st (st2 := [.int 0]) rfl ?_
  refine q_istore (lv2 := [(4, .int 0), (0, .ref h0), (1, .int t), (2, .int k), (3, .int n)]) C dX12_rule_4 (by decide) rfl ?_
  refine q_aload_n (j := 1) C dX12_rule_6 rfl ?_
  refine q_iload_n (j := 2) C dX12_rule_7 rfl ?_
  refine q_callV (d2 := 0) (mc2 := 0) (ms2 := 0) (As := [.int t]) (rest := []) C (m_isTable (f := (va_up f 3 (.int 0))) t hL (va_up_self _ _ _) f4) dX12_rule_8 kV_X12_167 rfl hL (va_up_self _ _ _) ck_13 rfl (Nat.le_of_ble_eq_true rfl) ⟨Nat.le_of_ble_eq_true rfl, Nat.le_of_ble_eq_true rfl⟩ ⟨Nat.le_of_ble_eq_true rfl, Nat.le_of_ble_eq_true rfl⟩ (fun vh2 Lh2 Eh2 h2 => ?_)
  obtain ⟨rfl, rfl, rfl⟩ := h2
  refine q_st (st2 := [.int 0]) rfl ?_
  refine q_if_ne (tgt := 20) C dX12_rule_11 (by decide) (fun z => absurd (by decide) z) (fun _ => ?_)
  refine q_aload_n (j := 1) C dX12_rule_14 rfl ?_
  refine q_iconst (v := 3) C dX12_rule_15 (by decide) ?_
  refine q_callV (d2 := 0) (mc2 := 0) (ms2 := 0) (As := [.int 3]) (rest := []) C (c_bad 3 hL (va_up_self _ _ _)) dX12_rule_16 kV_X12_154 rfl hL (va_up_self _ _ _) ck_13 rfl (Nat.le_of_ble_eq_true rfl) ⟨Nat.le_of_ble_eq_true rfl, Nat.le_of_ble_eq_true rfl⟩ ⟨Nat.le_of_ble_eq_true rfl, Nat.le_of_ble_eq_true rfl⟩ (fun vh3 Lh3 Eh3 h3 => ?_)
  obtain ⟨rfl, rfl, rfl⟩ := h3
  refine q_st (st2 := [.int (-1)]) rfl ?_
  exact q_iret C dX12_rule_19 rfl (Nat.le_of_ble_eq_true rfl) (Nat.le_of_ble_eq_true rfl) rfl
set_option maxHeartbeats 4000000 in
set_option maxRecDepth 100000 in
theorem m_indicator {l : Launch} {G : GT} {L : List Nat} {E : Nat → va_E} (t k : Int32)  {h0 : Nat} {f : Nat → Value} (hL : h0 ∈ L) (hE : E h0 = ob 13 67 f) (f3 : f 3 = .int 0) (f4 : f 4 = .int 0) : Mq l G yX12_indicator cX12_indicator 8 (some .int) 4 [.ref h0, .int t, .int k] L E 0 0 (fun v L2 E2 => v = some (.int (-1))) := by
  refine Mq.mk (by decide) (Nat.le_of_ble_eq_true rfl) ?_
  intro p e s m args below meth c A C
  refine q_aload_n (j := 0) C dX12_indicator_0 rfl ?_
  refine q_callV (d2 := 0) (mc2 := 0) (ms2 := 0) (As := []) (rest := []) C (m_taken hL hE f3) dX12_indicator_1 kV_X12_192 rfl hL hE ck_13 rfl (Nat.le_of_ble_eq_true rfl) ⟨Nat.le_of_ble_eq_true rfl, Nat.le_of_ble_eq_true rfl⟩ ⟨Nat.le_of_ble_eq_true rfl, Nat.le_of_ble_eq_true rfl⟩ (fun vh1 Lh1 Eh1 h1 => ?_)
  obtain ⟨rfl, rfl, rfl⟩ := h1
  refine q_st (st2 := [.int 0]) rfl ?_
  refine q_istore_n (lv2 := [(3, .int 0), (0, .ref h0), (1, .int t), (2, .int k)]) C dX12_indicator_4 (by decide) rfl ?_
  refine q_iload_n (j := 3) C dX12_indicator_5 rfl ?_
  refine q_iconst (v := 0) C dX12_indicator_6 (by decide) ?_
  refine q_iconst (v := 3) C dX12_indicator_7 (by decide) ?_
  refine q_callS (d2 := 0) (mc2 := 0) (ms2 := 0) (As := [.int k, .int 0, .int 3]) (rest := []) C (m_isIn k 0 3) dX12_indicator_8 kS_X12_174 rfl rfl (Nat.le_of_ble_eq_true rfl) ⟨Nat.le_of_ble_eq_true rfl, Nat.le_of_ble_eq_true rfl⟩ ⟨Nat.le_of_ble_eq_true rfl, Nat.le_of_ble_eq_true rfl⟩ (fun vh2 Lh2 Eh2 h2 => ?_)
  obtain ⟨rfl, rfl, rfl⟩ := h2
  refine q_st (st2 := [.int (inn k 0 3)]) rfl ?_
  refine q_if_ne (tgt := 21) C dX12_indicator_11 (by decide) (fun c1 => ?_) (fun c1 => ?_)
  · refine q_aload_n (j := 1) C dX12_indicator_21 rfl ?_
    refine q_iload_n (j := 2) C dX12_indicator_22 rfl ?_
    refine q_callV (d2 := 0) (mc2 := 0) (ms2 := 0) (As := [.int t]) (rest := []) C (m_isTable (f := (va_up f 3 (.int 0))) t hL (va_up_self _ _ _) f4) dX12_indicator_23 kV_X12_167 rfl hL (va_up_self _ _ _) ck_13 rfl (Nat.le_of_ble_eq_true rfl) ⟨Nat.le_of_ble_eq_true rfl, Nat.le_of_ble_eq_true rfl⟩ ⟨Nat.le_of_ble_eq_true rfl, Nat.le_of_ble_eq_true rfl⟩ (fun vh3 Lh3 Eh3 h3 => ?_)
    obtain ⟨rfl, rfl, rfl⟩ := h3
    refine q_st (st2 := [.int 0]) rfl ?_
    refine q_if_ne (tgt := 35) C dX12_indicator_26 (by decide) (fun z => absurd (by decide) z) (fun _ => ?_)
    refine q_aload_n (j := 1) C dX12_indicator_29 rfl ?_
    refine q_iconst (v := 3) C dX12_indicator_30 (by decide) ?_
    refine q_callV (d2 := 0) (mc2 := 0) (ms2 := 0) (As := [.int 3]) (rest := []) C (c_bad 3 hL (va_up_self _ _ _)) dX12_indicator_31 kV_X12_154 rfl hL (va_up_self _ _ _) ck_13 rfl (Nat.le_of_ble_eq_true rfl) ⟨Nat.le_of_ble_eq_true rfl, Nat.le_of_ble_eq_true rfl⟩ ⟨Nat.le_of_ble_eq_true rfl, Nat.le_of_ble_eq_true rfl⟩ (fun vh4 Lh4 Eh4 h4 => ?_)
    obtain ⟨rfl, rfl, rfl⟩ := h4
    refine q_st (st2 := [.int (-1)]) rfl ?_
    exact q_iret C dX12_indicator_34 rfl (Nat.le_of_ble_eq_true rfl) (Nat.le_of_ble_eq_true rfl) rfl
  · refine q_aload_n (j := 1) C dX12_indicator_14 rfl ?_
    refine q_bipush (v := 6) C dX12_indicator_15 (by decide) ?_
    refine q_callV (d2 := 0) (mc2 := 0) (ms2 := 0) (As := [.int 6]) (rest := []) C (c_bad 6 hL (va_up_self _ _ _)) dX12_indicator_17 kV_X12_154 rfl hL (va_up_self _ _ _) ck_13 rfl (Nat.le_of_ble_eq_true rfl) ⟨Nat.le_of_ble_eq_true rfl, Nat.le_of_ble_eq_true rfl⟩ ⟨Nat.le_of_ble_eq_true rfl, Nat.le_of_ble_eq_true rfl⟩ (fun vh5 Lh5 Eh5 h5 => ?_)
    obtain ⟨rfl, rfl, rfl⟩ := h5
    refine q_st (st2 := [.int (-1)]) rfl ?_
    exact q_iret C dX12_indicator_20 rfl (Nat.le_of_ble_eq_true rfl) (Nat.le_of_ble_eq_true rfl) rfl
set_option maxHeartbeats 4000000 in
set_option maxRecDepth 100000 in
theorem m_text {l : Launch} {G : GT} {L : List Nat} {E : Nat → va_E}  {h0 : Nat} {f : Nat → Value} (hL : h0 ∈ L) (hE : E h0 = ob 13 67 f) (f3 : f 3 = .int 0) (f30 : f 30 = .int 0) : Mq l G yX12_text cX12_text 4 (some .int) 4 [.ref h0] L E 0 0 (fun v L2 E2 => v = some (.int 0)) := by
  refine Mq.mk (by decide) (Nat.le_of_ble_eq_true rfl) ?_
  intro p e s m args below meth c A C
  refine q_aload_n (j := 0) C dX12_text_0 rfl ?_
  refine q_callV (d2 := 0) (mc2 := 0) (ms2 := 0) (As := []) (rest := []) C (m_taken hL hE f3) dX12_text_1 kV_X12_192 rfl hL hE ck_13 rfl (Nat.le_of_ble_eq_true rfl) ⟨Nat.le_of_ble_eq_true rfl, Nat.le_of_ble_eq_true rfl⟩ ⟨Nat.le_of_ble_eq_true rfl, Nat.le_of_ble_eq_true rfl⟩ (fun vh1 Lh1 Eh1 h1 => ?_)
  obtain ⟨rfl, rfl, rfl⟩ := h1
  refine q_st (st2 := [.int 0]) rfl ?_
  refine q_istore_n (lv2 := [(1, .int 0), (0, .ref h0)]) C dX12_text_4 (by decide) rfl ?_
  refine q_iconst (v := 1) C dX12_text_5 (by decide) ?_
  refine q_istore_n (lv2 := [(2, .int 1), (1, .int 0), (0, .ref h0)]) C dX12_text_6 (by decide) rfl ?_
  refine q_iconst (v := 0) C dX12_text_7 (by decide) ?_
  refine q_istore_n (lv2 := [(3, .int 0), (2, .int 1), (1, .int 0), (0, .ref h0)]) C dX12_text_8 (by decide) rfl ?_
  refine q_iload_n (j := 0) C dX12_text_9 rfl ?_
  refine q_iload_n (j := 2) C dX12_text_10 rfl ?_
  refine q_icmp_ge (tgt := 57) C dX12_text_11 (by decide) (fun _ => ?_) (fun z => absurd (by decide) z)
  refine q_iload_n (j := 1) C dX12_text_57 rfl ?_
  refine q_if_eq (tgt := 73) C dX12_text_58 (by decide) (fun z => absurd z (by decide)) (fun _ => ?_)
  refine q_aload_n (j := 3) C dX12_text_61 rfl ?_
  refine q_get (k := 30) (v := .int 0) C ck_13 dX12_text_62 w6_89 (by decide) hL (va_up_self _ _ _) f30 ?_
  refine q_iload_n (j := 2) C dX12_text_65 rfl ?_
  refine q_iadd (v := 0) C dX12_text_66 (by decide) ?_
  refine q_sipush (v := 500) C dX12_text_67 (by decide) ?_
  refine q_icmp_le (tgt := 80) C dX12_text_70 (by decide) (fun _ => ?_) (fun z => absurd (by decide) z)
  refine q_iconst (v := 0) C dX12_text_80 (by decide) ?_
  refine q_istore_n (lv2 := [(3, .int 0), (2, .int 1), (1, .int 0), (0, .ref h0)]) C dX12_text_81 (by decide) rfl ?_
  refine q_iload_n (j := 0) C dX12_text_82 rfl ?_
  refine q_iload_n (j := 2) C dX12_text_83 rfl ?_
  refine q_icmp_ge (tgt := 110) C dX12_text_84 (by decide) (fun _ => ?_) (fun z => absurd (by decide) z)
  refine q_aload_n (j := 3) C dX12_text_110 rfl ?_
  refine q_iload_n (j := 2) C dX12_text_111 rfl ?_
  refine q_if_ne (tgt := 119) C dX12_text_112 (by decide) (fun z => absurd (by decide) z) (fun _ => ?_)
  refine q_iconst (v := 0) C dX12_text_115 (by decide) ?_
  refine q_goto (tgt := 125) C dX12_text_116 (by decide) ?_
  refine q_put (k := 30) C ck_13 dX12_text_125 w6_89 (by decide) rfl hL (va_up_self _ _ _) rfl rfl ?_
  refine q_aload_n (j := 3) C dX12_text_128 rfl ?_
  refine q_aload_n (j := 3) C dX12_text_129 rfl ?_
  refine q_get (k := 30) (v := .int 0) C ck_13 dX12_text_130 w6_89 (by decide) hL (va_up_self _ _ _) rfl ?_
  refine q_callV (d2 := 0) (mc2 := 0) (ms2 := 0) (As := [.int 0]) (rest := []) C (c_fine 0 hL (va_up_self _ _ _)) dX12_text_133 kV_X12_158 rfl hL (va_up_self _ _ _) ck_13 rfl (Nat.le_of_ble_eq_true rfl) ⟨Nat.le_of_ble_eq_true rfl, Nat.le_of_ble_eq_true rfl⟩ ⟨Nat.le_of_ble_eq_true rfl, Nat.le_of_ble_eq_true rfl⟩ (fun vh2 Lh2 Eh2 h2 => ?_)
  obtain ⟨rfl, rfl, rfl⟩ := h2
  refine q_st (st2 := [.int 0]) rfl ?_
  exact q_iret C dX12_text_136 rfl (Nat.le_of_ble_eq_true rfl) (Nat.le_of_ble_eq_true rfl) rfl
set_option maxHeartbeats 4000000 in
set_option maxRecDepth 100000 in
theorem m_head {l : Launch} {G : GT} {L : List Nat} {E : Nat → va_E} (t : Int32)  {h0 : Nat} {f : Nat → Value} (hL : h0 ∈ L) (hE : E h0 = ob 13 67 f) (f3 : f 3 = .int 0) (f4 : f 4 = .int 0) : Mq l G yX12_head cX12_head 5 (some .int) 4 [.ref h0, .int t] L E 0 0 (fun v L2 E2 => v = some (.int (-1))) := by
  refine Mq.mk (by decide) (Nat.le_of_ble_eq_true rfl) ?_
  intro p e s m args below meth c A C
  refine q_aload_n (j := 0) C dX12_head_0 rfl ?_
  refine q_callV (d2 := 0) (mc2 := 0) (ms2 := 0) (As := []) (rest := []) C (m_taken hL hE f3) dX12_head_1 kV_X12_192 rfl hL hE ck_13 rfl (Nat.le_of_ble_eq_true rfl) ⟨Nat.le_of_ble_eq_true rfl, Nat.le_of_ble_eq_true rfl⟩ ⟨Nat.le_of_ble_eq_true rfl, Nat.le_of_ble_eq_true rfl⟩ (fun vh1 Lh1 Eh1 h1 => ?_)
  obtain ⟨rfl, rfl, rfl⟩ := h1
  refine q_st (st2 := [.int 0]) rfl ?_
  refine q_istore_n (lv2 := [(2, .int 0), (0, .ref h0), (1, .int t)]) C dX12_head_4 (by decide) rfl ?_
  refine q_iload_n (j := 0) C dX12_head_5 rfl ?_
  refine q_bipush (v := 40) C dX12_head_6 (by decide) ?_
  refine q_icmp_gt (tgt := 15) C dX12_head_8 (by decide) (fun z => absurd z (by decide)) (fun _ => ?_)
  refine q_iconst (v := 1) C dX12_head_11 (by decide) ?_
  refine q_goto (tgt := 16) C dX12_head_12 (by decide) ?_
  refine q_istore_n (lv2 := [(3, .int 1), (2, .int 0), (0, .ref h0), (1, .int t)]) C dX12_head_16 (by decide) rfl ?_
  refine q_iconst (v := 0) C dX12_head_17 (by decide) ?_
  refine q_istore (lv2 := [(4, .int 0), (3, .int 1), (2, .int 0), (0, .ref h0), (1, .int t)]) C dX12_head_18 (by decide) rfl ?_
  refine q_iload (j := 0) C dX12_head_20 rfl ?_
  refine q_iload_n (j := 2) C dX12_head_22 rfl ?_
  refine q_icmp_ge (tgt := 47) C dX12_head_23 (by decide) (fun _ => ?_) (fun z => absurd (by decide) z)
  refine q_iload_n (j := 1) C dX12_head_47 rfl ?_
  refine q_if_ne (tgt := 58) C dX12_head_48 (by decide) (fun _ => ?_) (fun z => absurd z (by decide))
  refine q_aload_n (j := 3) C dX12_head_58 rfl ?_
  refine q_iload_n (j := 4) C dX12_head_59 rfl ?_
  refine q_callV (d2 := 1) (mc2 := 0) (ms2 := 0) (As := [.int t]) (rest := []) C (m_isWhole (f := (va_up f 3 (.int 0))) t hL (va_up_self _ _ _) f4) dX12_head_60 kV_X12_171 rfl hL (va_up_self _ _ _) ck_13 rfl (Nat.le_of_ble_eq_true rfl) ⟨Nat.le_of_ble_eq_true rfl, Nat.le_of_ble_eq_true rfl⟩ ⟨Nat.le_of_ble_eq_true rfl, Nat.le_of_ble_eq_true rfl⟩ (fun vh2 Lh2 Eh2 h2 => ?_)
  obtain ⟨rfl, rfl, rfl⟩ := h2
  refine q_st (st2 := [.int 0]) rfl ?_
  refine q_if_ne (tgt := 72) C dX12_head_63 (by decide) (fun z => absurd (by decide) z) (fun _ => ?_)
  refine q_aload_n (j := 3) C dX12_head_66 rfl ?_
  refine q_iconst (v := 3) C dX12_head_67 (by decide) ?_
  refine q_callV (d2 := 0) (mc2 := 0) (ms2 := 0) (As := [.int 3]) (rest := []) C (c_bad 3 hL (va_up_self _ _ _)) dX12_head_68 kV_X12_154 rfl hL (va_up_self _ _ _) ck_13 rfl (Nat.le_of_ble_eq_true rfl) ⟨Nat.le_of_ble_eq_true rfl, Nat.le_of_ble_eq_true rfl⟩ ⟨Nat.le_of_ble_eq_true rfl, Nat.le_of_ble_eq_true rfl⟩ (fun vh3 Lh3 Eh3 h3 => ?_)
  obtain ⟨rfl, rfl, rfl⟩ := h3
  refine q_st (st2 := [.int (-1)]) rfl ?_
  exact q_iret C dX12_head_71 rfl (Nat.le_of_ble_eq_true rfl) (Nat.le_of_ble_eq_true rfl) rfl
set_option maxHeartbeats 4000000 in
set_option maxRecDepth 100000 in
theorem m_end {l : Launch} {G : GT} {L : List Nat} {E : Nat → va_E} (n : Int32)  {h0 : Nat} {f : Nat → Value} (hL : h0 ∈ L) (hE : E h0 = ob 13 67 f) (f3 : f 3 = .int 0) : Mq l G yX12_end cX12_end 2 (some .int) 4 [.ref h0, .int n] L E 0 0 (fun v L2 E2 => v = some (.int (an_end n))) := by
  refine Mq.mk (by decide) (Nat.le_of_ble_eq_true rfl) ?_
  intro p e s m args below meth c A C
  refine q_iload_n (j := 1) C dX12_end_0 rfl ?_
  refine q_if_ge (tgt := 10) C dX12_end_1 (by decide) (fun c1 => ?_) (fun c1 => ?_)
  · refine q_iload_n (j := 1) C dX12_end_10 rfl ?_
    refine q_aload_n (j := 0) C dX12_end_11 rfl ?_
    refine q_get (k := 3) (v := .int 0) C ck_13 dX12_end_12 w6_62 (by decide) hL hE f3 ?_
    refine q_icmp_le (tgt := 25) C dX12_end_15 (by decide) (fun c2 => ?_) (fun c2 => ?_)
    · refine q_aload_n (j := 0) C dX12_end_25 rfl ?_
      refine q_iload_n (j := 1) C dX12_end_26 rfl ?_
      refine q_put (k := 3) C ck_13 dX12_end_27 w6_62 (by decide) rfl hL hE rfl rfl ?_
      refine q_aload_n (j := 0) C dX12_end_30 rfl ?_
      refine q_iload_n (j := 1) C dX12_end_31 rfl ?_
      refine q_callV (d2 := 0) (mc2 := 0) (ms2 := 0) (As := [.int n]) (rest := []) C (c_fine n hL (va_up_self _ _ _)) dX12_end_32 kV_X12_158 rfl hL (va_up_self _ _ _) ck_13 rfl (Nat.le_of_ble_eq_true rfl) ⟨Nat.le_of_ble_eq_true rfl, Nat.le_of_ble_eq_true rfl⟩ ⟨Nat.le_of_ble_eq_true rfl, Nat.le_of_ble_eq_true rfl⟩ (fun vh1 Lh1 Eh1 h1 => ?_)
      obtain ⟨rfl, rfl, rfl⟩ := h1
      refine q_st (st2 := [.int n]) rfl ?_
      exact q_iret C dX12_end_35 rfl (Nat.le_of_ble_eq_true rfl) (Nat.le_of_ble_eq_true rfl) (by refine congrArg (fun z => some (Value.int z)) ?_; unfold an_end; (try simp only [inn_f, Decidable.not_not] at c1); (try simp only [i32_lt, i32_le, i32_eq, inn_f, Decidable.not_not, tn_m1, tn_0, tn_1, tn_2, tn_3, tn_4, tn_5, tn_6, tn_7, tn_8, tn_10, tn_30, tn_31, tn_32, tn_36, tn_40, tn_50, tn_100, tn_126, tn_200, tn_255, tn_500, tn_512, tn_3000, tn_5000] at c1); (try simp only [inn_f, Decidable.not_not] at c2); (try simp only [i32_lt, i32_le, i32_eq, inn_f, Decidable.not_not, tn_m1, tn_0, tn_1, tn_2, tn_3, tn_4, tn_5, tn_6, tn_7, tn_8, tn_10, tn_30, tn_31, tn_32, tn_36, tn_40, tn_50, tn_100, tn_126, tn_200, tn_255, tn_500, tn_512, tn_3000, tn_5000] at c2); split <;> rename_i hz <;> (try simp only [i32_lt, i32_le, i32_eq, inn_f, Decidable.not_not, tn_m1, tn_0, tn_1, tn_2, tn_3, tn_4, tn_5, tn_6, tn_7, tn_8, tn_10, tn_30, tn_31, tn_32, tn_36, tn_40, tn_50, tn_100, tn_126, tn_200, tn_255, tn_500, tn_512, tn_3000, tn_5000] at hz) <;> first | rfl | (exfalso; omega) | (rw [i32_eq]; simp only [i32_lt, i32_le, i32_eq, inn_f, Decidable.not_not, tn_m1, tn_0, tn_1, tn_2, tn_3, tn_4, tn_5, tn_6, tn_7, tn_8, tn_10, tn_30, tn_31, tn_32, tn_36, tn_40, tn_50, tn_100, tn_126, tn_200, tn_255, tn_500, tn_512, tn_3000, tn_5000]; omega))
    · refine q_aload_n (j := 0) C dX12_end_18 rfl ?_
      refine q_bipush (v := 6) C dX12_end_19 (by decide) ?_
      refine q_callV (d2 := 0) (mc2 := 0) (ms2 := 0) (As := [.int 6]) (rest := []) C (c_bad 6 hL hE) dX12_end_21 kV_X12_154 rfl hL hE ck_13 rfl (Nat.le_of_ble_eq_true rfl) ⟨Nat.le_of_ble_eq_true rfl, Nat.le_of_ble_eq_true rfl⟩ ⟨Nat.le_of_ble_eq_true rfl, Nat.le_of_ble_eq_true rfl⟩ (fun vh2 Lh2 Eh2 h2 => ?_)
      obtain ⟨rfl, rfl, rfl⟩ := h2
      refine q_st (st2 := [.int (-1)]) rfl ?_
      exact q_iret C dX12_end_24 rfl (Nat.le_of_ble_eq_true rfl) (Nat.le_of_ble_eq_true rfl) (by refine congrArg (fun z => some (Value.int z)) ?_; unfold an_end; (try simp only [inn_f, Decidable.not_not] at c1); (try simp only [i32_lt, i32_le, i32_eq, inn_f, Decidable.not_not, tn_m1, tn_0, tn_1, tn_2, tn_3, tn_4, tn_5, tn_6, tn_7, tn_8, tn_10, tn_30, tn_31, tn_32, tn_36, tn_40, tn_50, tn_100, tn_126, tn_200, tn_255, tn_500, tn_512, tn_3000, tn_5000] at c1); (try simp only [inn_f, Decidable.not_not] at c2); (try simp only [i32_lt, i32_le, i32_eq, inn_f, Decidable.not_not, tn_m1, tn_0, tn_1, tn_2, tn_3, tn_4, tn_5, tn_6, tn_7, tn_8, tn_10, tn_30, tn_31, tn_32, tn_36, tn_40, tn_50, tn_100, tn_126, tn_200, tn_255, tn_500, tn_512, tn_3000, tn_5000] at c2); split <;> rename_i hz <;> (try simp only [i32_lt, i32_le, i32_eq, inn_f, Decidable.not_not, tn_m1, tn_0, tn_1, tn_2, tn_3, tn_4, tn_5, tn_6, tn_7, tn_8, tn_10, tn_30, tn_31, tn_32, tn_36, tn_40, tn_50, tn_100, tn_126, tn_200, tn_255, tn_500, tn_512, tn_3000, tn_5000] at hz) <;> first | rfl | (exfalso; omega) | (rw [i32_eq]; simp only [i32_lt, i32_le, i32_eq, inn_f, Decidable.not_not, tn_m1, tn_0, tn_1, tn_2, tn_3, tn_4, tn_5, tn_6, tn_7, tn_8, tn_10, tn_30, tn_31, tn_32, tn_36, tn_40, tn_50, tn_100, tn_126, tn_200, tn_255, tn_500, tn_512, tn_3000, tn_5000]; omega))
  · refine q_aload_n (j := 0) C dX12_end_4 rfl ?_
    refine q_iconst (v := 5) C dX12_end_5 (by decide) ?_
    refine q_callV (d2 := 0) (mc2 := 0) (ms2 := 0) (As := [.int 5]) (rest := []) C (c_bad 5 hL hE) dX12_end_6 kV_X12_154 rfl hL hE ck_13 rfl (Nat.le_of_ble_eq_true rfl) ⟨Nat.le_of_ble_eq_true rfl, Nat.le_of_ble_eq_true rfl⟩ ⟨Nat.le_of_ble_eq_true rfl, Nat.le_of_ble_eq_true rfl⟩ (fun vh3 Lh3 Eh3 h3 => ?_)
    obtain ⟨rfl, rfl, rfl⟩ := h3
    refine q_st (st2 := [.int (-1)]) rfl ?_
    exact q_iret C dX12_end_9 rfl (Nat.le_of_ble_eq_true rfl) (Nat.le_of_ble_eq_true rfl) (by refine congrArg (fun z => some (Value.int z)) ?_; unfold an_end; (try simp only [inn_f, Decidable.not_not] at c1); (try simp only [i32_lt, i32_le, i32_eq, inn_f, Decidable.not_not, tn_m1, tn_0, tn_1, tn_2, tn_3, tn_4, tn_5, tn_6, tn_7, tn_8, tn_10, tn_30, tn_31, tn_32, tn_36, tn_40, tn_50, tn_100, tn_126, tn_200, tn_255, tn_500, tn_512, tn_3000, tn_5000] at c1); split <;> rename_i hz <;> (try simp only [i32_lt, i32_le, i32_eq, inn_f, Decidable.not_not, tn_m1, tn_0, tn_1, tn_2, tn_3, tn_4, tn_5, tn_6, tn_7, tn_8, tn_10, tn_30, tn_31, tn_32, tn_36, tn_40, tn_50, tn_100, tn_126, tn_200, tn_255, tn_500, tn_512, tn_3000, tn_5000] at hz) <;> first | rfl | (exfalso; omega) | (rw [i32_eq]; simp only [i32_lt, i32_le, i32_eq, inn_f, Decidable.not_not, tn_m1, tn_0, tn_1, tn_2, tn_3, tn_4, tn_5, tn_6, tn_7, tn_8, tn_10, tn_30, tn_31, tn_32, tn_36, tn_40, tn_50, tn_100, tn_126, tn_200, tn_255, tn_500, tn_512, tn_3000, tn_5000]; omega))
set_option maxHeartbeats 4000000 in
set_option maxRecDepth 100000 in
theorem m_measure {l : Launch} {G : GT} {L : List Nat} {E : Nat → va_E} (w h y : Int32)  {h0 : Nat} {f : Nat → Value} (hL : h0 ∈ L) (hE : E h0 = ob 13 67 f) : Mq l G yX12_measure cX12_measure 4 (some .int) 4 [.ref h0, .int w, .int h, .int y] L E 0 0 (fun v L2 E2 => v = some (.int (an_meas w h y))) := by
  refine Mq.mk (by decide) (Nat.le_of_ble_eq_true rfl) ?_
  intro p e s m args below meth c A C
  refine q_iload_n (j := 1) C dX12_measure_0 rfl ?_
  refine q_iconst (v := 1) C dX12_measure_1 (by decide) ?_
  refine q_bipush (v := 100) C dX12_measure_2 (by decide) ?_
  refine q_callS (d2 := 0) (mc2 := 0) (ms2 := 0) (As := [.int w, .int 1, .int 100]) (rest := []) C (m_isIn w 1 100) dX12_measure_4 kS_X12_174 rfl rfl (Nat.le_of_ble_eq_true rfl) ⟨Nat.le_of_ble_eq_true rfl, Nat.le_of_ble_eq_true rfl⟩ ⟨Nat.le_of_ble_eq_true rfl, Nat.le_of_ble_eq_true rfl⟩ (fun vh1 Lh1 Eh1 h1 => ?_)
  obtain ⟨rfl, rfl, rfl⟩ := h1
  refine q_st (st2 := [.int (inn w 1 100)]) rfl ?_
  refine q_if_eq (tgt := 31) C dX12_measure_7 (by decide) (fun c1 => ?_) (fun c1 => ?_)
  · refine q_aload_n (j := 0) C dX12_measure_31 rfl ?_
    refine q_bipush (v := 6) C dX12_measure_32 (by decide) ?_
    refine q_callV (d2 := 0) (mc2 := 0) (ms2 := 0) (As := [.int 6]) (rest := []) C (c_bad 6 hL hE) dX12_measure_34 kV_X12_154 rfl hL hE ck_13 rfl (Nat.le_of_ble_eq_true rfl) ⟨Nat.le_of_ble_eq_true rfl, Nat.le_of_ble_eq_true rfl⟩ ⟨Nat.le_of_ble_eq_true rfl, Nat.le_of_ble_eq_true rfl⟩ (fun vh2 Lh2 Eh2 h2 => ?_)
    obtain ⟨rfl, rfl, rfl⟩ := h2
    refine q_st (st2 := [.int (-1)]) rfl ?_
    exact q_iret C dX12_measure_37 rfl (Nat.le_of_ble_eq_true rfl) (Nat.le_of_ble_eq_true rfl) (by refine congrArg (fun z => some (Value.int z)) ?_; unfold an_meas; (try simp only [inn_f, Decidable.not_not] at c1); (try simp only [i32_lt, i32_le, i32_eq, inn_f, Decidable.not_not, tn_m1, tn_0, tn_1, tn_2, tn_3, tn_4, tn_5, tn_6, tn_7, tn_8, tn_10, tn_30, tn_31, tn_32, tn_36, tn_40, tn_50, tn_100, tn_126, tn_200, tn_255, tn_500, tn_512, tn_3000, tn_5000] at c1); split <;> rename_i hz <;> (try simp only [i32_lt, i32_le, i32_eq, inn_f, Decidable.not_not, tn_m1, tn_0, tn_1, tn_2, tn_3, tn_4, tn_5, tn_6, tn_7, tn_8, tn_10, tn_30, tn_31, tn_32, tn_36, tn_40, tn_50, tn_100, tn_126, tn_200, tn_255, tn_500, tn_512, tn_3000, tn_5000] at hz) <;> first | rfl | (exfalso; omega) | (rw [i32_eq]; simp only [i32_lt, i32_le, i32_eq, inn_f, Decidable.not_not, tn_m1, tn_0, tn_1, tn_2, tn_3, tn_4, tn_5, tn_6, tn_7, tn_8, tn_10, tn_30, tn_31, tn_32, tn_36, tn_40, tn_50, tn_100, tn_126, tn_200, tn_255, tn_500, tn_512, tn_3000, tn_5000]; omega))
  · refine q_iload_n (j := 2) C dX12_measure_10 rfl ?_
    refine q_iconst (v := 1) C dX12_measure_11 (by decide) ?_
    refine q_bipush (v := 50) C dX12_measure_12 (by decide) ?_
    refine q_callS (d2 := 0) (mc2 := 0) (ms2 := 0) (As := [.int h, .int 1, .int 50]) (rest := []) C (m_isIn h 1 50) dX12_measure_14 kS_X12_174 rfl rfl (Nat.le_of_ble_eq_true rfl) ⟨Nat.le_of_ble_eq_true rfl, Nat.le_of_ble_eq_true rfl⟩ ⟨Nat.le_of_ble_eq_true rfl, Nat.le_of_ble_eq_true rfl⟩ (fun vh3 Lh3 Eh3 h3 => ?_)
    obtain ⟨rfl, rfl, rfl⟩ := h3
    refine q_st (st2 := [.int (inn h 1 50)]) rfl ?_
    refine q_if_eq (tgt := 31) C dX12_measure_17 (by decide) (fun c2 => ?_) (fun c2 => ?_)
    · refine q_aload_n (j := 0) C dX12_measure_31 rfl ?_
      refine q_bipush (v := 6) C dX12_measure_32 (by decide) ?_
      refine q_callV (d2 := 0) (mc2 := 0) (ms2 := 0) (As := [.int 6]) (rest := []) C (c_bad 6 hL hE) dX12_measure_34 kV_X12_154 rfl hL hE ck_13 rfl (Nat.le_of_ble_eq_true rfl) ⟨Nat.le_of_ble_eq_true rfl, Nat.le_of_ble_eq_true rfl⟩ ⟨Nat.le_of_ble_eq_true rfl, Nat.le_of_ble_eq_true rfl⟩ (fun vh4 Lh4 Eh4 h4 => ?_)
      obtain ⟨rfl, rfl, rfl⟩ := h4
      refine q_st (st2 := [.int (-1)]) rfl ?_
      exact q_iret C dX12_measure_37 rfl (Nat.le_of_ble_eq_true rfl) (Nat.le_of_ble_eq_true rfl) (by refine congrArg (fun z => some (Value.int z)) ?_; unfold an_meas; (try simp only [inn_f, Decidable.not_not] at c1); (try simp only [i32_lt, i32_le, i32_eq, inn_f, Decidable.not_not, tn_m1, tn_0, tn_1, tn_2, tn_3, tn_4, tn_5, tn_6, tn_7, tn_8, tn_10, tn_30, tn_31, tn_32, tn_36, tn_40, tn_50, tn_100, tn_126, tn_200, tn_255, tn_500, tn_512, tn_3000, tn_5000] at c1); (try simp only [inn_f, Decidable.not_not] at c2); (try simp only [i32_lt, i32_le, i32_eq, inn_f, Decidable.not_not, tn_m1, tn_0, tn_1, tn_2, tn_3, tn_4, tn_5, tn_6, tn_7, tn_8, tn_10, tn_30, tn_31, tn_32, tn_36, tn_40, tn_50, tn_100, tn_126, tn_200, tn_255, tn_500, tn_512, tn_3000, tn_5000] at c2); split <;> rename_i hz <;> (try simp only [i32_lt, i32_le, i32_eq, inn_f, Decidable.not_not, tn_m1, tn_0, tn_1, tn_2, tn_3, tn_4, tn_5, tn_6, tn_7, tn_8, tn_10, tn_30, tn_31, tn_32, tn_36, tn_40, tn_50, tn_100, tn_126, tn_200, tn_255, tn_500, tn_512, tn_3000, tn_5000] at hz) <;> first | rfl | (exfalso; omega) | (rw [i32_eq]; simp only [i32_lt, i32_le, i32_eq, inn_f, Decidable.not_not, tn_m1, tn_0, tn_1, tn_2, tn_3, tn_4, tn_5, tn_6, tn_7, tn_8, tn_10, tn_30, tn_31, tn_32, tn_36, tn_40, tn_50, tn_100, tn_126, tn_200, tn_255, tn_500, tn_512, tn_3000, tn_5000]; omega))
    · refine q_iload_n (j := 3) C dX12_measure_20 rfl ?_
      refine q_iconst (v := 1) C dX12_measure_21 (by decide) ?_
      refine q_sipush (v := 255) C dX12_measure_22 (by decide) ?_
      refine q_callS (d2 := 0) (mc2 := 0) (ms2 := 0) (As := [.int y, .int 1, .int 255]) (rest := []) C (m_isIn y 1 255) dX12_measure_25 kS_X12_174 rfl rfl (Nat.le_of_ble_eq_true rfl) ⟨Nat.le_of_ble_eq_true rfl, Nat.le_of_ble_eq_true rfl⟩ ⟨Nat.le_of_ble_eq_true rfl, Nat.le_of_ble_eq_true rfl⟩ (fun vh5 Lh5 Eh5 h5 => ?_)
      obtain ⟨rfl, rfl, rfl⟩ := h5
      refine q_st (st2 := [.int (inn y 1 255)]) rfl ?_
      refine q_if_ne (tgt := 38) C dX12_measure_28 (by decide) (fun c3 => ?_) (fun c3 => ?_)
      · refine q_aload_n (j := 0) C dX12_measure_38 rfl ?_
        refine q_iload_n (j := 1) C dX12_measure_39 rfl ?_
        refine q_put (k := 31) C ck_13 dX12_measure_40 w6_90 (by decide) rfl hL hE rfl rfl ?_
        refine q_aload_n (j := 0) C dX12_measure_43 rfl ?_
        refine q_iload_n (j := 2) C dX12_measure_44 rfl ?_
        refine q_put (k := 32) C ck_13 dX12_measure_45 w6_91 (by decide) rfl hL (va_up_self _ _ _) rfl rfl ?_
        refine q_aload_n (j := 0) C dX12_measure_48 rfl ?_
        refine q_iload_n (j := 3) C dX12_measure_49 rfl ?_
        refine q_put (k := 33) C ck_13 dX12_measure_50 w6_92 (by decide) rfl hL (va_up_self _ _ _) rfl rfl ?_
        refine q_aload_n (j := 0) C dX12_measure_53 rfl ?_
        refine q_iconst (v := 1) C dX12_measure_54 (by decide) ?_
        refine q_callV (d2 := 0) (mc2 := 0) (ms2 := 0) (As := [.int 1]) (rest := []) C (c_fine 1 hL (va_up_self _ _ _)) dX12_measure_55 kV_X12_158 rfl hL (va_up_self _ _ _) ck_13 rfl (Nat.le_of_ble_eq_true rfl) ⟨Nat.le_of_ble_eq_true rfl, Nat.le_of_ble_eq_true rfl⟩ ⟨Nat.le_of_ble_eq_true rfl, Nat.le_of_ble_eq_true rfl⟩ (fun vh6 Lh6 Eh6 h6 => ?_)
        obtain ⟨rfl, rfl, rfl⟩ := h6
        refine q_st (st2 := [.int 1]) rfl ?_
        exact q_iret C dX12_measure_58 rfl (Nat.le_of_ble_eq_true rfl) (Nat.le_of_ble_eq_true rfl) (by refine congrArg (fun z => some (Value.int z)) ?_; unfold an_meas; (try simp only [inn_f, Decidable.not_not] at c1); (try simp only [i32_lt, i32_le, i32_eq, inn_f, Decidable.not_not, tn_m1, tn_0, tn_1, tn_2, tn_3, tn_4, tn_5, tn_6, tn_7, tn_8, tn_10, tn_30, tn_31, tn_32, tn_36, tn_40, tn_50, tn_100, tn_126, tn_200, tn_255, tn_500, tn_512, tn_3000, tn_5000] at c1); (try simp only [inn_f, Decidable.not_not] at c2); (try simp only [i32_lt, i32_le, i32_eq, inn_f, Decidable.not_not, tn_m1, tn_0, tn_1, tn_2, tn_3, tn_4, tn_5, tn_6, tn_7, tn_8, tn_10, tn_30, tn_31, tn_32, tn_36, tn_40, tn_50, tn_100, tn_126, tn_200, tn_255, tn_500, tn_512, tn_3000, tn_5000] at c2); (try simp only [inn_f, Decidable.not_not] at c3); (try simp only [i32_lt, i32_le, i32_eq, inn_f, Decidable.not_not, tn_m1, tn_0, tn_1, tn_2, tn_3, tn_4, tn_5, tn_6, tn_7, tn_8, tn_10, tn_30, tn_31, tn_32, tn_36, tn_40, tn_50, tn_100, tn_126, tn_200, tn_255, tn_500, tn_512, tn_3000, tn_5000] at c3); split <;> rename_i hz <;> (try simp only [i32_lt, i32_le, i32_eq, inn_f, Decidable.not_not, tn_m1, tn_0, tn_1, tn_2, tn_3, tn_4, tn_5, tn_6, tn_7, tn_8, tn_10, tn_30, tn_31, tn_32, tn_36, tn_40, tn_50, tn_100, tn_126, tn_200, tn_255, tn_500, tn_512, tn_3000, tn_5000] at hz) <;> first | rfl | (exfalso; omega) | (rw [i32_eq]; simp only [i32_lt, i32_le, i32_eq, inn_f, Decidable.not_not, tn_m1, tn_0, tn_1, tn_2, tn_3, tn_4, tn_5, tn_6, tn_7, tn_8, tn_10, tn_30, tn_31, tn_32, tn_36, tn_40, tn_50, tn_100, tn_126, tn_200, tn_255, tn_500, tn_512, tn_3000, tn_5000]; omega))
      · refine q_aload_n (j := 0) C dX12_measure_31 rfl ?_
        refine q_bipush (v := 6) C dX12_measure_32 (by decide) ?_
        refine q_callV (d2 := 0) (mc2 := 0) (ms2 := 0) (As := [.int 6]) (rest := []) C (c_bad 6 hL hE) dX12_measure_34 kV_X12_154 rfl hL hE ck_13 rfl (Nat.le_of_ble_eq_true rfl) ⟨Nat.le_of_ble_eq_true rfl, Nat.le_of_ble_eq_true rfl⟩ ⟨Nat.le_of_ble_eq_true rfl, Nat.le_of_ble_eq_true rfl⟩ (fun vh7 Lh7 Eh7 h7 => ?_)
        obtain ⟨rfl, rfl, rfl⟩ := h7
        refine q_st (st2 := [.int (-1)]) rfl ?_
        exact q_iret C dX12_measure_37 rfl (Nat.le_of_ble_eq_true rfl) (Nat.le_of_ble_eq_true rfl) (by refine congrArg (fun z => some (Value.int z)) ?_; unfold an_meas; (try simp only [inn_f, Decidable.not_not] at c1); (try simp only [i32_lt, i32_le, i32_eq, inn_f, Decidable.not_not, tn_m1, tn_0, tn_1, tn_2, tn_3, tn_4, tn_5, tn_6, tn_7, tn_8, tn_10, tn_30, tn_31, tn_32, tn_36, tn_40, tn_50, tn_100, tn_126, tn_200, tn_255, tn_500, tn_512, tn_3000, tn_5000] at c1); (try simp only [inn_f, Decidable.not_not] at c2); (try simp only [i32_lt, i32_le, i32_eq, inn_f, Decidable.not_not, tn_m1, tn_0, tn_1, tn_2, tn_3, tn_4, tn_5, tn_6, tn_7, tn_8, tn_10, tn_30, tn_31, tn_32, tn_36, tn_40, tn_50, tn_100, tn_126, tn_200, tn_255, tn_500, tn_512, tn_3000, tn_5000] at c2); (try simp only [inn_f, Decidable.not_not] at c3); (try simp only [i32_lt, i32_le, i32_eq, inn_f, Decidable.not_not, tn_m1, tn_0, tn_1, tn_2, tn_3, tn_4, tn_5, tn_6, tn_7, tn_8, tn_10, tn_30, tn_31, tn_32, tn_36, tn_40, tn_50, tn_100, tn_126, tn_200, tn_255, tn_500, tn_512, tn_3000, tn_5000] at c3); split <;> rename_i hz <;> (try simp only [i32_lt, i32_le, i32_eq, inn_f, Decidable.not_not, tn_m1, tn_0, tn_1, tn_2, tn_3, tn_4, tn_5, tn_6, tn_7, tn_8, tn_10, tn_30, tn_31, tn_32, tn_36, tn_40, tn_50, tn_100, tn_126, tn_200, tn_255, tn_500, tn_512, tn_3000, tn_5000] at hz) <;> first | rfl | (exfalso; omega) | (rw [i32_eq]; simp only [i32_lt, i32_le, i32_eq, inn_f, Decidable.not_not, tn_m1, tn_0, tn_1, tn_2, tn_3, tn_4, tn_5, tn_6, tn_7, tn_8, tn_10, tn_30, tn_31, tn_32, tn_36, tn_40, tn_50, tn_100, tn_126, tn_200, tn_255, tn_500, tn_512, tn_3000, tn_5000]; omega))
set_option maxHeartbeats 4000000 in
set_option maxRecDepth 100000 in
theorem m_failed {l : Launch} {G : GT} {L : List Nat} {E : Nat → va_E} (d1 z : Int32)  {h0 : Nat} {f : Nat → Value} (hL : h0 ∈ L) (hE : E h0 = ob 13 67 f) (f56 : f 56 = .int 0) : Mq l G yX12_failed cX12_failed 3 (some .int) 4 [.ref h0, .int d1, .int z] L E 0 0 (fun v L2 E2 => v = some (.int (an_fail d1 z))) := by
  refine Mq.mk (by decide) (Nat.le_of_ble_eq_true rfl) ?_
  intro p e s m args below meth c A C
  refine q_iload_n (j := 1) C dX12_failed_0 rfl ?_
  refine q_iconst (v := 0) C dX12_failed_1 (by decide) ?_
  refine q_bipush (v := 7) C dX12_failed_2 (by decide) ?_
  refine q_callS (d2 := 0) (mc2 := 0) (ms2 := 0) (As := [.int d1, .int 0, .int 7]) (rest := []) C (m_isIn d1 0 7) dX12_failed_4 kS_X12_174 rfl rfl (Nat.le_of_ble_eq_true rfl) ⟨Nat.le_of_ble_eq_true rfl, Nat.le_of_ble_eq_true rfl⟩ ⟨Nat.le_of_ble_eq_true rfl, Nat.le_of_ble_eq_true rfl⟩ (fun vh1 Lh1 Eh1 h1 => ?_)
  obtain ⟨rfl, rfl, rfl⟩ := h1
  refine q_st (st2 := [.int (inn d1 0 7)]) rfl ?_
  refine q_if_ne (tgt := 17) C dX12_failed_7 (by decide) (fun c1 => ?_) (fun c1 => ?_)
  · refine q_aload_n (j := 0) C dX12_failed_17 rfl ?_
    refine q_iload_n (j := 2) C dX12_failed_18 rfl ?_
    refine q_if_eq (tgt := 33) C dX12_failed_19 (by decide) (fun c2 => ?_) (fun c2 => ?_)
    · refine q_aload_n (j := 0) C dX12_failed_33 rfl ?_
      refine q_get (k := 56) (v := .int 0) C ck_13 dX12_failed_34 w6_115 (by decide) hL hE f56 ?_
      refine q_iconst (v := 1) C dX12_failed_37 (by decide) ?_
      refine q_iload_n (j := 1) C dX12_failed_38 rfl ?_
      refine q_ishl (v := ((1 : Int32) <<< (d1 &&& 31))) C dX12_failed_39 rfl ?_
      refine q_iconst (v := (-1)) C dX12_failed_40 (by decide) ?_
      refine q_ixor (v := (((1 : Int32) <<< (d1 &&& 31)) ^^^ ((-1) : Int32))) C dX12_failed_41 rfl ?_
      refine q_iand (v := ((0 : Int32) &&& (((1 : Int32) <<< (d1 &&& 31)) ^^^ ((-1) : Int32)))) C dX12_failed_42 rfl ?_
      refine q_put (k := 56) C ck_13 dX12_failed_43 w6_115 (by decide) rfl hL hE rfl rfl ?_
      refine q_aload_n (j := 0) C dX12_failed_46 rfl ?_
      refine q_aload_n (j := 0) C dX12_failed_47 rfl ?_
      refine q_get (k := 56) (v := .int ((0 : Int32) &&& (((1 : Int32) <<< (d1 &&& 31)) ^^^ ((-1) : Int32)))) C ck_13 dX12_failed_48 w6_115 (by decide) hL (va_up_self _ _ _) rfl ?_
      refine q_callS (d2 := 0) (mc2 := 0) (ms2 := 0) (As := [.int ((0 : Int32) &&& (((1 : Int32) <<< (d1 &&& 31)) ^^^ ((-1) : Int32)))]) (rest := [.ref h0]) C (c_bitCount ((0 : Int32) &&& (((1 : Int32) <<< (d1 &&& 31)) ^^^ ((-1) : Int32)))) dX12_failed_51 kS_X12_309 rfl rfl (Nat.le_of_ble_eq_true rfl) ⟨Nat.le_of_ble_eq_true rfl, Nat.le_of_ble_eq_true rfl⟩ ⟨Nat.le_of_ble_eq_true rfl, Nat.le_of_ble_eq_true rfl⟩ (fun vh2 Lh2 Eh2 h2 => ?_)
      obtain ⟨rfl, rfl, rfl⟩ := h2
      refine q_st (st2 := [.int (bc ((0 : Int32) &&& (((1 : Int32) <<< (d1 &&& 31)) ^^^ ((-1) : Int32)))), .ref h0]) rfl ?_
      refine q_callV (d2 := 0) (mc2 := 0) (ms2 := 0) (As := [.int (bc ((0 : Int32) &&& (((1 : Int32) <<< (d1 &&& 31)) ^^^ ((-1) : Int32))))]) (rest := []) C (c_fine (bc ((0 : Int32) &&& (((1 : Int32) <<< (d1 &&& 31)) ^^^ ((-1) : Int32)))) hL (va_up_self _ _ _)) dX12_failed_54 kV_X12_158 rfl hL (va_up_self _ _ _) ck_13 rfl (Nat.le_of_ble_eq_true rfl) ⟨Nat.le_of_ble_eq_true rfl, Nat.le_of_ble_eq_true rfl⟩ ⟨Nat.le_of_ble_eq_true rfl, Nat.le_of_ble_eq_true rfl⟩ (fun vh3 Lh3 Eh3 h3 => ?_)
      obtain ⟨rfl, rfl, rfl⟩ := h3
      refine q_st (st2 := [.int (bc ((0 : Int32) &&& (((1 : Int32) <<< (d1 &&& 31)) ^^^ ((-1) : Int32))))]) rfl ?_
      exact q_iret C dX12_failed_57 rfl (Nat.le_of_ble_eq_true rfl) (Nat.le_of_ble_eq_true rfl) (by refine congrArg (fun z => some (Value.int z)) ?_; unfold an_fail; (try simp only [inn_f, Decidable.not_not] at c1); (try simp only [i32_lt, i32_le, i32_eq, inn_f, Decidable.not_not, tn_m1, tn_0, tn_1, tn_2, tn_3, tn_4, tn_5, tn_6, tn_7, tn_8, tn_10, tn_30, tn_31, tn_32, tn_36, tn_40, tn_50, tn_100, tn_126, tn_200, tn_255, tn_500, tn_512, tn_3000, tn_5000] at c1); (try simp only [inn_f, Decidable.not_not] at c2); (try simp only [i32_lt, i32_le, i32_eq, inn_f, Decidable.not_not, tn_m1, tn_0, tn_1, tn_2, tn_3, tn_4, tn_5, tn_6, tn_7, tn_8, tn_10, tn_30, tn_31, tn_32, tn_36, tn_40, tn_50, tn_100, tn_126, tn_200, tn_255, tn_500, tn_512, tn_3000, tn_5000] at c2); split <;> rename_i hz <;> (try simp only [i32_lt, i32_le, i32_eq, inn_f, Decidable.not_not, tn_m1, tn_0, tn_1, tn_2, tn_3, tn_4, tn_5, tn_6, tn_7, tn_8, tn_10, tn_30, tn_31, tn_32, tn_36, tn_40, tn_50, tn_100, tn_126, tn_200, tn_255, tn_500, tn_512, tn_3000, tn_5000] at hz) <;> first | rfl | (exfalso; omega) | (split <;> rename_i hy <;> (try simp only [i32_lt, i32_le, i32_eq, inn_f, Decidable.not_not, tn_m1, tn_0, tn_1, tn_2, tn_3, tn_4, tn_5, tn_6, tn_7, tn_8, tn_10, tn_30, tn_31, tn_32, tn_36, tn_40, tn_50, tn_100, tn_126, tn_200, tn_255, tn_500, tn_512, tn_3000, tn_5000] at hy) <;> first | rfl | (exfalso; omega)))
    · refine q_aload_n (j := 0) C dX12_failed_22 rfl ?_
      refine q_get (k := 56) (v := .int 0) C ck_13 dX12_failed_23 w6_115 (by decide) hL hE f56 ?_
      refine q_iconst (v := 1) C dX12_failed_26 (by decide) ?_
      refine q_iload_n (j := 1) C dX12_failed_27 rfl ?_
      refine q_ishl (v := ((1 : Int32) <<< (d1 &&& 31))) C dX12_failed_28 rfl ?_
      refine q_ior (v := ((0 : Int32) ||| ((1 : Int32) <<< (d1 &&& 31)))) C dX12_failed_29 rfl ?_
      refine q_goto (tgt := 43) C dX12_failed_30 (by decide) ?_
      refine q_put (k := 56) C ck_13 dX12_failed_43 w6_115 (by decide) rfl hL hE rfl rfl ?_
      refine q_aload_n (j := 0) C dX12_failed_46 rfl ?_
      refine q_aload_n (j := 0) C dX12_failed_47 rfl ?_
      refine q_get (k := 56) (v := .int ((0 : Int32) ||| ((1 : Int32) <<< (d1 &&& 31)))) C ck_13 dX12_failed_48 w6_115 (by decide) hL (va_up_self _ _ _) rfl ?_
      refine q_callS (d2 := 0) (mc2 := 0) (ms2 := 0) (As := [.int ((0 : Int32) ||| ((1 : Int32) <<< (d1 &&& 31)))]) (rest := [.ref h0]) C (c_bitCount ((0 : Int32) ||| ((1 : Int32) <<< (d1 &&& 31)))) dX12_failed_51 kS_X12_309 rfl rfl (Nat.le_of_ble_eq_true rfl) ⟨Nat.le_of_ble_eq_true rfl, Nat.le_of_ble_eq_true rfl⟩ ⟨Nat.le_of_ble_eq_true rfl, Nat.le_of_ble_eq_true rfl⟩ (fun vh4 Lh4 Eh4 h4 => ?_)
      obtain ⟨rfl, rfl, rfl⟩ := h4
      refine q_st (st2 := [.int (bc ((0 : Int32) ||| ((1 : Int32) <<< (d1 &&& 31)))), .ref h0]) rfl ?_
      refine q_callV (d2 := 0) (mc2 := 0) (ms2 := 0) (As := [.int (bc ((0 : Int32) ||| ((1 : Int32) <<< (d1 &&& 31))))]) (rest := []) C (c_fine (bc ((0 : Int32) ||| ((1 : Int32) <<< (d1 &&& 31)))) hL (va_up_self _ _ _)) dX12_failed_54 kV_X12_158 rfl hL (va_up_self _ _ _) ck_13 rfl (Nat.le_of_ble_eq_true rfl) ⟨Nat.le_of_ble_eq_true rfl, Nat.le_of_ble_eq_true rfl⟩ ⟨Nat.le_of_ble_eq_true rfl, Nat.le_of_ble_eq_true rfl⟩ (fun vh5 Lh5 Eh5 h5 => ?_)
      obtain ⟨rfl, rfl, rfl⟩ := h5
      refine q_st (st2 := [.int (bc ((0 : Int32) ||| ((1 : Int32) <<< (d1 &&& 31))))]) rfl ?_
      exact q_iret C dX12_failed_57 rfl (Nat.le_of_ble_eq_true rfl) (Nat.le_of_ble_eq_true rfl) (by refine congrArg (fun z => some (Value.int z)) ?_; unfold an_fail; (try simp only [inn_f, Decidable.not_not] at c1); (try simp only [i32_lt, i32_le, i32_eq, inn_f, Decidable.not_not, tn_m1, tn_0, tn_1, tn_2, tn_3, tn_4, tn_5, tn_6, tn_7, tn_8, tn_10, tn_30, tn_31, tn_32, tn_36, tn_40, tn_50, tn_100, tn_126, tn_200, tn_255, tn_500, tn_512, tn_3000, tn_5000] at c1); (try simp only [inn_f, Decidable.not_not] at c2); (try simp only [i32_lt, i32_le, i32_eq, inn_f, Decidable.not_not, tn_m1, tn_0, tn_1, tn_2, tn_3, tn_4, tn_5, tn_6, tn_7, tn_8, tn_10, tn_30, tn_31, tn_32, tn_36, tn_40, tn_50, tn_100, tn_126, tn_200, tn_255, tn_500, tn_512, tn_3000, tn_5000] at c2); split <;> rename_i hz <;> (try simp only [i32_lt, i32_le, i32_eq, inn_f, Decidable.not_not, tn_m1, tn_0, tn_1, tn_2, tn_3, tn_4, tn_5, tn_6, tn_7, tn_8, tn_10, tn_30, tn_31, tn_32, tn_36, tn_40, tn_50, tn_100, tn_126, tn_200, tn_255, tn_500, tn_512, tn_3000, tn_5000] at hz) <;> first | rfl | (exfalso; omega) | (split <;> rename_i hy <;> (try simp only [i32_lt, i32_le, i32_eq, inn_f, Decidable.not_not, tn_m1, tn_0, tn_1, tn_2, tn_3, tn_4, tn_5, tn_6, tn_7, tn_8, tn_10, tn_30, tn_31, tn_32, tn_36, tn_40, tn_50, tn_100, tn_126, tn_200, tn_255, tn_500, tn_512, tn_3000, tn_5000] at hy) <;> first | rfl | (exfalso; omega)))
  · refine q_aload_n (j := 0) C dX12_failed_10 rfl ?_
    refine q_bipush (v := 6) C dX12_failed_11 (by decide) ?_
    refine q_callV (d2 := 0) (mc2 := 0) (ms2 := 0) (As := [.int 6]) (rest := []) C (c_bad 6 hL hE) dX12_failed_13 kV_X12_154 rfl hL hE ck_13 rfl (Nat.le_of_ble_eq_true rfl) ⟨Nat.le_of_ble_eq_true rfl, Nat.le_of_ble_eq_true rfl⟩ ⟨Nat.le_of_ble_eq_true rfl, Nat.le_of_ble_eq_true rfl⟩ (fun vh6 Lh6 Eh6 h6 => ?_)
    obtain ⟨rfl, rfl, rfl⟩ := h6
    refine q_st (st2 := [.int (-1)]) rfl ?_
    exact q_iret C dX12_failed_16 rfl (Nat.le_of_ble_eq_true rfl) (Nat.le_of_ble_eq_true rfl) (by refine congrArg (fun z => some (Value.int z)) ?_; unfold an_fail; (try simp only [inn_f, Decidable.not_not] at c1); (try simp only [i32_lt, i32_le, i32_eq, inn_f, Decidable.not_not, tn_m1, tn_0, tn_1, tn_2, tn_3, tn_4, tn_5, tn_6, tn_7, tn_8, tn_10, tn_30, tn_31, tn_32, tn_36, tn_40, tn_50, tn_100, tn_126, tn_200, tn_255, tn_500, tn_512, tn_3000, tn_5000] at c1); split <;> rename_i hz <;> (try simp only [i32_lt, i32_le, i32_eq, inn_f, Decidable.not_not, tn_m1, tn_0, tn_1, tn_2, tn_3, tn_4, tn_5, tn_6, tn_7, tn_8, tn_10, tn_30, tn_31, tn_32, tn_36, tn_40, tn_50, tn_100, tn_126, tn_200, tn_255, tn_500, tn_512, tn_3000, tn_5000] at hz) <;> first | rfl | (exfalso; omega) | (split <;> rename_i hy <;> (try simp only [i32_lt, i32_le, i32_eq, inn_f, Decidable.not_not, tn_m1, tn_0, tn_1, tn_2, tn_3, tn_4, tn_5, tn_6, tn_7, tn_8, tn_10, tn_30, tn_31, tn_32, tn_36, tn_40, tn_50, tn_100, tn_126, tn_200, tn_255, tn_500, tn_512, tn_3000, tn_5000] at hy) <;> first | rfl | (exfalso; omega)))
set_option maxHeartbeats 4000000 in
set_option maxRecDepth 100000 in
theorem m_finds {l : Launch} {G : GT} {L : List Nat} {E : Nat → va_E} (k : Int32)  {h0 a27 : Nat} {f : Nat → Value} (hL : h0 ∈ L) (hE : E h0 = ob 13 67 f) (f27 : f 27 = .ref a27) (hL27 : a27 ∈ L) (hE27 : E a27 = aI G 5 (fun _ => 0)) : Mq l G yX12_finds cX12_finds 2 (some .int) 4 [.ref h0, .int k] L E 0 0 (fun v L2 E2 => v = some (.int 0)) := by
  refine Mq.mk (by decide) (Nat.le_of_ble_eq_true rfl) ?_
  intro p e s m args below meth c A C
  refine q_iload_n (j := 1) C dX12_finds_0 rfl ?_
  refine q_iconst (v := 0) C dX12_finds_1 (by decide) ?_
  refine q_iconst (v := 4) C dX12_finds_2 (by decide) ?_
  refine q_callS (d2 := 0) (mc2 := 0) (ms2 := 0) (As := [.int k, .int 0, .int 4]) (rest := []) C (m_isIn k 0 4) dX12_finds_3 kS_X12_174 rfl rfl (Nat.le_of_ble_eq_true rfl) ⟨Nat.le_of_ble_eq_true rfl, Nat.le_of_ble_eq_true rfl⟩ ⟨Nat.le_of_ble_eq_true rfl, Nat.le_of_ble_eq_true rfl⟩ (fun vh1 Lh1 Eh1 h1 => ?_)
  obtain ⟨rfl, rfl, rfl⟩ := h1
  refine q_st (st2 := [.int (inn k 0 4)]) rfl ?_
  refine q_if_eq (tgt := 18) C dX12_finds_6 (by decide) (fun c1 => ?_) (fun c1 => ?_)
  · refine q_iconst (v := 0) C dX12_finds_18 (by decide) ?_
    exact q_iret C dX12_finds_19 rfl (Nat.le_of_ble_eq_true rfl) (Nat.le_of_ble_eq_true rfl) rfl
  · refine q_aload_n (j := 0) C dX12_finds_9 rfl ?_
    refine q_get (k := 27) (v := .ref a27) C ck_13 dX12_finds_10 w6_86 (by decide) hL hE f27 ?_
    refine q_iload_n (j := 1) C dX12_finds_13 rfl ?_
    refine q_iald (v := 0) C dX12_finds_14 hL27 hE27 (by rw [vp_in_iff]; have h1 := c1; (try simp only [inn_f, Decidable.not_not] at h1); simp only [i32_lt, i32_le, i32_eq, inn_f, Decidable.not_not, tn_m1, tn_0, tn_1, tn_2, tn_3, tn_4, tn_5, tn_6, tn_7, tn_8, tn_10, tn_30, tn_31, tn_32, tn_36, tn_40, tn_50, tn_100, tn_126, tn_200, tn_255, tn_500, tn_512, tn_3000, tn_5000] at h1; omega) rfl ?_
    refine q_goto (tgt := 19) C dX12_finds_15 (by decide) ?_
    exact q_iret C dX12_finds_19 rfl (Nat.le_of_ble_eq_true rfl) (Nat.le_of_ble_eq_true rfl) rfl
set_option maxHeartbeats 4000000 in
set_option maxRecDepth 100000 in
theorem m_digest {l : Launch} {G : GT} {L : List Nat} {E : Nat → va_E}  {h0 a27 : Nat} {f : Nat → Value} (hL : h0 ∈ L) (hE : E h0 = ob 13 67 f) (f36 : f 36 = .int 0) (f42 : f 42 = .int 0) (f43 : f 43 = .int 0) (f52 : f 52 = .int 0) (f27 : f 27 = .ref a27) (hL27 : a27 ∈ L) (hE27 : E a27 = aI G 5 (fun _ => 0)) : Mq l G yX12_digest cX12_digest 4 (some .int) 4 [.ref h0] L E 0 0 (fun v L2 E2 => v = some (.int 954237711)) := by
  refine Mq.mk (by decide) (Nat.le_of_ble_eq_true rfl) ?_
  intro p e s m args below meth c A C
  refine q_sipush (v := 527) C dX12_digest_0 (by decide) ?_
  refine q_aload_n (j := 0) C dX12_digest_3 rfl ?_
  refine q_get (k := 36) (v := .int 0) C ck_13 dX12_digest_4 w6_95 (by decide) hL hE f36 ?_
  refine q_iadd (v := 527) C dX12_digest_7 (by decide) ?_
  refine q_istore_n (lv2 := [(1, .int 527), (0, .ref h0)]) C dX12_digest_8 (by decide) rfl ?_
  refine q_iconst (v := 0) C dX12_digest_9 (by decide) ?_
  refine q_istore_n (lv2 := [(2, .int 0), (1, .int 527), (0, .ref h0)]) C dX12_digest_10 (by decide) rfl ?_
  refine q_iload_n (j := 0) C dX12_digest_11 rfl ?_
  refine q_aload_n (j := 2) C dX12_digest_12 rfl ?_
  refine q_get (k := 36) (v := .int 0) C ck_13 dX12_digest_13 w6_95 (by decide) hL hE f36 ?_
  refine q_icmp_ge (tgt := 73) C dX12_digest_16 (by decide) (fun _ => ?_) (fun z => absurd (by decide) z)
  refine q_iload_n (j := 1) C dX12_digest_73 rfl ?_
  refine q_bipush (v := 31) C dX12_digest_74 (by decide) ?_
  refine q_imul (v := 16337) C dX12_digest_76 (by decide) ?_
  refine q_aload_n (j := 2) C dX12_digest_77 rfl ?_
  refine q_get (k := 52) (v := .int 0) C ck_13 dX12_digest_78 w6_111 (by decide) hL hE f52 ?_
  refine q_iadd (v := 16337) C dX12_digest_81 (by decide) ?_
  refine q_istore_n (lv2 := [(1, .int 16337), (2, .int 0), (0, .ref h0)]) C dX12_digest_82 (by decide) rfl ?_
  refine q_iconst (v := 0) C dX12_digest_83 (by decide) ?_
  refine q_istore_n (lv2 := [(2, .int 0), (1, .int 16337), (0, .ref h0)]) C dX12_digest_84 (by decide) rfl ?_
  refine q_iload_n (j := 0) C dX12_digest_85 rfl ?_
  refine q_aload_n (j := 2) C dX12_digest_86 rfl ?_
  refine q_get (k := 52) (v := .int 0) C ck_13 dX12_digest_87 w6_111 (by decide) hL hE f52 ?_
  refine q_icmp_ge (tgt := 111) C dX12_digest_90 (by decide) (fun _ => ?_) (fun z => absurd (by decide) z)
  refine q_iconst (v := 0) C dX12_digest_111 (by decide) ?_
  refine q_istore_n (lv2 := [(2, .int 0), (1, .int 16337), (0, .ref h0)]) C dX12_digest_112 (by decide) rfl ?_
  refine q_iload_n (j := 0) C dX12_digest_113 rfl ?_
  refine q_iconst (v := 5) C dX12_digest_114 (by decide) ?_
  refine q_icmp_ge (tgt := 136) C dX12_digest_115 (by decide) (fun z => absurd z (by decide)) (fun _ => ?_)
  refine q_iload_n (j := 1) C dX12_digest_118 rfl ?_
  refine q_bipush (v := 31) C dX12_digest_119 (by decide) ?_
  refine q_imul (v := 506447) C dX12_digest_121 (by decide) ?_
  refine q_aload_n (j := 2) C dX12_digest_122 rfl ?_
  refine q_get (k := 27) (v := .ref a27) C ck_13 dX12_digest_123 w6_86 (by decide) hL hE f27 ?_
  refine q_iload_n (j := 0) C dX12_digest_126 rfl ?_
  refine q_iald (v := 0) C dX12_digest_127 hL27 hE27 (by unfold vp_in; decide) rfl ?_
  refine q_iadd (v := 506447) C dX12_digest_128 (by decide) ?_
  refine q_istore_n (lv2 := [(1, .int 506447), (2, .int 0), (0, .ref h0)]) C dX12_digest_129 (by decide) rfl ?_
  refine q_iinc (j := 1) (v := 1) (lv2 := [(2, .int 1), (1, .int 506447), (0, .ref h0)]) C dX12_digest_130 rfl (by decide) (by decide) rfl ?_
  refine q_goto (tgt := 113) C dX12_digest_133 (by decide) ?_
  refine q_iload_n (j := 0) C dX12_digest_113 rfl ?_
  refine q_iconst (v := 5) C dX12_digest_114 (by decide) ?_
  refine q_icmp_ge (tgt := 136) C dX12_digest_115 (by decide) (fun z => absurd z (by decide)) (fun _ => ?_)
  refine q_iload_n (j := 1) C dX12_digest_118 rfl ?_
  refine q_bipush (v := 31) C dX12_digest_119 (by decide) ?_
  refine q_imul (v := 15699857) C dX12_digest_121 (by decide) ?_
  refine q_aload_n (j := 2) C dX12_digest_122 rfl ?_
  refine q_get (k := 27) (v := .ref a27) C ck_13 dX12_digest_123 w6_86 (by decide) hL hE f27 ?_
  refine q_iload_n (j := 0) C dX12_digest_126 rfl ?_
  refine q_iald (v := 0) C dX12_digest_127 hL27 hE27 (by unfold vp_in; decide) rfl ?_
  refine q_iadd (v := 15699857) C dX12_digest_128 (by decide) ?_
  refine q_istore_n (lv2 := [(1, .int 15699857), (2, .int 1), (0, .ref h0)]) C dX12_digest_129 (by decide) rfl ?_
  refine q_iinc (j := 1) (v := 2) (lv2 := [(2, .int 2), (1, .int 15699857), (0, .ref h0)]) C dX12_digest_130 rfl (by decide) (by decide) rfl ?_
  refine q_goto (tgt := 113) C dX12_digest_133 (by decide) ?_
  refine q_iload_n (j := 0) C dX12_digest_113 rfl ?_
  refine q_iconst (v := 5) C dX12_digest_114 (by decide) ?_
  refine q_icmp_ge (tgt := 136) C dX12_digest_115 (by decide) (fun z => absurd z (by decide)) (fun _ => ?_)
  refine q_iload_n (j := 1) C dX12_digest_118 rfl ?_
  refine q_bipush (v := 31) C dX12_digest_119 (by decide) ?_
  refine q_imul (v := 486695567) C dX12_digest_121 (by decide) ?_
  refine q_aload_n (j := 2) C dX12_digest_122 rfl ?_
  refine q_get (k := 27) (v := .ref a27) C ck_13 dX12_digest_123 w6_86 (by decide) hL hE f27 ?_
  refine q_iload_n (j := 0) C dX12_digest_126 rfl ?_
  refine q_iald (v := 0) C dX12_digest_127 hL27 hE27 (by unfold vp_in; decide) rfl ?_
  refine q_iadd (v := 486695567) C dX12_digest_128 (by decide) ?_
  refine q_istore_n (lv2 := [(1, .int 486695567), (2, .int 2), (0, .ref h0)]) C dX12_digest_129 (by decide) rfl ?_
  refine q_iinc (j := 1) (v := 3) (lv2 := [(2, .int 3), (1, .int 486695567), (0, .ref h0)]) C dX12_digest_130 rfl (by decide) (by decide) rfl ?_
  refine q_goto (tgt := 113) C dX12_digest_133 (by decide) ?_
  refine q_iload_n (j := 0) C dX12_digest_113 rfl ?_
  refine q_iconst (v := 5) C dX12_digest_114 (by decide) ?_
  refine q_icmp_ge (tgt := 136) C dX12_digest_115 (by decide) (fun z => absurd z (by decide)) (fun _ => ?_)
  refine q_iload_n (j := 1) C dX12_digest_118 rfl ?_
  refine q_bipush (v := 31) C dX12_digest_119 (by decide) ?_
  refine q_imul (v := (-2092306607)) C dX12_digest_121 (by decide) ?_
  refine q_aload_n (j := 2) C dX12_digest_122 rfl ?_
  refine q_get (k := 27) (v := .ref a27) C ck_13 dX12_digest_123 w6_86 (by decide) hL hE f27 ?_
  refine q_iload_n (j := 0) C dX12_digest_126 rfl ?_
  refine q_iald (v := 0) C dX12_digest_127 hL27 hE27 (by unfold vp_in; decide) rfl ?_
  refine q_iadd (v := (-2092306607)) C dX12_digest_128 (by decide) ?_
  refine q_istore_n (lv2 := [(1, .int (-2092306607)), (2, .int 3), (0, .ref h0)]) C dX12_digest_129 (by decide) rfl ?_
  refine q_iinc (j := 1) (v := 4) (lv2 := [(2, .int 4), (1, .int (-2092306607)), (0, .ref h0)]) C dX12_digest_130 rfl (by decide) (by decide) rfl ?_
  refine q_goto (tgt := 113) C dX12_digest_133 (by decide) ?_
  refine q_iload_n (j := 0) C dX12_digest_113 rfl ?_
  refine q_iconst (v := 5) C dX12_digest_114 (by decide) ?_
  refine q_icmp_ge (tgt := 136) C dX12_digest_115 (by decide) (fun z => absurd z (by decide)) (fun _ => ?_)
  refine q_iload_n (j := 1) C dX12_digest_118 rfl ?_
  refine q_bipush (v := 31) C dX12_digest_119 (by decide) ?_
  refine q_imul (v := (-436995377)) C dX12_digest_121 (by decide) ?_
  refine q_aload_n (j := 2) C dX12_digest_122 rfl ?_
  refine q_get (k := 27) (v := .ref a27) C ck_13 dX12_digest_123 w6_86 (by decide) hL hE f27 ?_
  refine q_iload_n (j := 0) C dX12_digest_126 rfl ?_
  refine q_iald (v := 0) C dX12_digest_127 hL27 hE27 (by unfold vp_in; decide) rfl ?_
  refine q_iadd (v := (-436995377)) C dX12_digest_128 (by decide) ?_
  refine q_istore_n (lv2 := [(1, .int (-436995377)), (2, .int 4), (0, .ref h0)]) C dX12_digest_129 (by decide) rfl ?_
  refine q_iinc (j := 1) (v := 5) (lv2 := [(2, .int 5), (1, .int (-436995377)), (0, .ref h0)]) C dX12_digest_130 rfl (by decide) (by decide) rfl ?_
  refine q_goto (tgt := 113) C dX12_digest_133 (by decide) ?_
  refine q_iload_n (j := 0) C dX12_digest_113 rfl ?_
  refine q_iconst (v := 5) C dX12_digest_114 (by decide) ?_
  refine q_icmp_ge (tgt := 136) C dX12_digest_115 (by decide) (fun _ => ?_) (fun z => absurd (by decide) z)
  refine q_iload_n (j := 1) C dX12_digest_136 rfl ?_
  refine q_bipush (v := 31) C dX12_digest_137 (by decide) ?_
  refine q_imul (v := (-661954799)) C dX12_digest_139 (by decide) ?_
  refine q_aload_n (j := 2) C dX12_digest_140 rfl ?_
  refine q_get (k := 42) (v := .int 0) C ck_13 dX12_digest_141 w6_101 (by decide) hL hE f42 ?_
  refine q_iadd (v := (-661954799)) C dX12_digest_144 (by decide) ?_
  refine q_bipush (v := 31) C dX12_digest_145 (by decide) ?_
  refine q_imul (v := 954237711) C dX12_digest_147 (by decide) ?_
  refine q_aload_n (j := 2) C dX12_digest_148 rfl ?_
  refine q_get (k := 43) (v := .int 0) C ck_13 dX12_digest_149 w6_102 (by decide) hL hE f43 ?_
  refine q_iadd (v := 954237711) C dX12_digest_152 (by decide) ?_
  exact q_iret C dX12_digest_153 rfl (Nat.le_of_ble_eq_true rfl) (Nat.le_of_ble_eq_true rfl) rfl
